-- ===== the public calls: the plain ones =====
theorem mC_w {h : sw_H} (hC : mC h) (hJ : mI h) {w : Int} (h0 : 0 ≤ w) (h1 : w < h 227 (h 224 36).toNat) : w < 6 ∧ 0 ≤ h 233 (6 * h 224 36 + w).toNat ∧ 0 ≤ h 234 (6 * h 224 36 + w).toNat ∧ h 233 (6 * h 224 36 + w).toNat + h 234 (6 * h 224 36 + w).toNat ≤ 60 := by
  have r7 : (0 : Int) ≤ h 227 (h 224 36).toNat ∧ h 227 (h 224 36).toNat ≤ 6 := hJ 227 _
  have r8 : (0 : Int) ≤ h 228 (h 224 36).toNat ∧ h 228 (h 224 36).toNat ≤ 60 := hJ 228 _
  obtain ⟨a, b⟩ := hC.2.2 w h0 h1
  have b1 := b.1
  have b2 := b.2.1
  unfold rN at a b2
  exact ⟨by omega, b1, b2, by omega⟩
theorem Wd_of {h : sw_H} (hC : mC h) (hJ : mI h) (ht : h 224 71 = -1) {w : Int} (h0 : 0 ≤ w) (h1 : w < h 227 (h 224 36).toNat) : Wd h w (cN h w) (cL h w) (cH h w) := by
  have r8 : (0 : Int) ≤ h 228 (h 224 36).toNat ∧ h 228 (h 224 36).toNat ≤ 60 := hJ 228 _
  obtain ⟨a, b⟩ := hC.2.2 w h0 h1
  obtain ⟨b1, b2, b3, b4, b5⟩ := b
  have eS : fS h w = rS h (h 224 36) w := by
    funext j
    unfold fS sO rS rF
    rw [if_neg (by omega)]
  have eV : fV h w = rV h (h 224 36) w := by
    funext j
    unfold fV wO rV rF
    rw [if_neg (by omega)]
  have eN : wn h w = rN h (h 224 36) w := rfl
  have eG : fG h w = rG h (h 224 36) w := rfl
  unfold Wd
  rw [eS, eV, eN, eG]
  exact ⟨by omega, b3, b4, b5⟩
theorem Wds_of {h : sw_H} (hC : mC h) (hJ : mI h) (ht : h 224 71 = -1) {w : Int} (h1 : w ≤ h 227 (h 224 36).toNat) : Wds h w := fun _ c0 c1 => Wd_of hC hJ ht c0 (by omega)
theorem Wd_rng {h : sw_H} {w nd la hi : Int} (k : Wd h w nd la hi) : 0 ≤ nd ∧ nd ≤ 6 ∧ 0 ≤ hi ∧ hi ≤ 12 ∧ -nd ≤ la ∧ la ≤ hi := by
  obtain ⟨-, -, -, b1, b2, b3, b4, H, U, c1, c2, c3, c4, c5, -⟩ := k
  have := c5 _ (Nat.le_refl _)
  rw [c3] at this
  exact ⟨b1, b2, b3, b4, this.1, this.2.1⟩
theorem b8_rng (x : Int) : -128 ≤ sw_b8 x ∧ sw_b8 x ≤ 127 := by unfold sw_b8; omega
theorem pw_rng {a : Int} (h0 : 0 ≤ a) (h1 : a ≤ 100) : ∀ n : Nat, n ≤ 4 → 0 ≤ pw a n ∧ pw a n ≤ 100 ^ n
  | 0, _ => by simp only [pw]; decide
  | n + 1, hn => by
    obtain ⟨i1, i2⟩ := pw_rng h0 h1 n (by omega)
    have e : pw a n * a ≤ 100 ^ n * 100 := Int.mul_le_mul i2 h1 h0 (Int.le_trans i1 i2)
    have e0 : 0 ≤ pw a n * a := Int.mul_nonneg i1 h0
    have hp : (100 : Int) ^ n * 100 ≤ 100000000 := by
      have : n = 0 ∨ n = 1 ∨ n = 2 ∨ n = 3 := by omega
      rcases this with rfl | rfl | rfl | rfl <;> decide
    have ee : (100 : Int) ^ (n + 1) = 100 ^ n * 100 := Int.pow_succ 100 n
    simp only [pw]
    rw [sw_w_id (by omega) (by omega), ee]
    exact ⟨e0, e⟩
theorem pw_100 {n : Int} (h0 : 0 ≤ n) (h1 : n ≤ 4) : 1 ≤ pw 100 n.toNat ∧ pw 100 n.toNat ≤ 100000000 := by
  have : n = 0 ∨ n = 1 ∨ n = 2 ∨ n = 3 ∨ n = 4 := by omega
  rcases this with rfl | rfl | rfl | rfl | rfl <;> decide
theorem pw_100a {a n : Int} (ha : 0 ≤ a ∧ a ≤ 100) (h0 : 0 ≤ n) (h1 : n ≤ 4) : 0 ≤ pw a n.toNat ∧ pw a n.toNat ≤ 100000000 := by
  obtain ⟨i1, i2⟩ := pw_rng ha.1 ha.2 n.toNat (by omega)
  have : n = 0 ∨ n = 1 ∨ n = 2 ∨ n = 3 ∨ n = 4 := by omega
  rcases this with rfl | rfl | rfl | rfl | rfl
  · exact ⟨i1, Int.le_trans i2 (by decide)⟩
  · exact ⟨i1, Int.le_trans i2 (by decide)⟩
  · exact ⟨i1, Int.le_trans i2 (by decide)⟩
  · exact ⟨i1, Int.le_trans i2 (by decide)⟩
  · exact ⟨i1, Int.le_trans i2 (by decide)⟩
theorem sy_iaK {G : sw_G} {N : Nat} {S : sw_S} {d : Nat} {M : sw_M} {pc : Nat} {f : sw_L} {st : List sw_V} {h : sw_H} {Q : Option sw_V → sw_H → Prop} {F : Int → Prop} {a n k : Nat} {i : Int} (hk : i.toNat = k) (hd : decode M.2.1 pc = .ok (.iaload, 1)) (hS : S a = some (100, [n])) (ha : a < N) (hn : n ≤ 65536) (hi : 0 ≤ i ∧ i < n) (hF : F (h a k)) (kk : F (h a k) → sw_E G N S d M (pc + 1) f (sw_i (h a k) :: st) h Q) : sw_E G N S d M pc f (sw_i i :: sw_r a :: st) h Q := by
  subst hk
  exact sy_iaF hd hS ha hn hi hF kk

set_option maxRecDepth 20000 in
set_option maxHeartbeats 4000000 in
theorem c_X12_keepAct {G : sw_G} (d : Nat) {h0 : sw_H} (hJ : mI h0)  : sw_E G NH SH (d) mX12_keepAct 0 [some (sw_r 224), none] [] h0 (sw_Qv (fun h' => mK (prW [73, 74] [267]) h0 h' ∧ (1 ≤ h' 224 73 ∧ h' 224 73 ≤ 40 ∧ h' 224 74 = 0))) := by
  have hI : mK (prW [73, 74] [267]) h0 h0 := mK.refl hJ
  refine sx_aload_n dX12_keepAct_0 rfl ?_
  refine sx_getI (k := 73) cl_12 fl_X12_507 dX12_keepAct_1 s_224 (by decide) rfl (by decide) ?_
  have r1 : (0 : Int) ≤ h0 224 73 ∧ h0 224 73 ≤ 40 := hI.1 224 73
  refine sx_bipush dX12_keepAct_4 ⟨by decide, by decide, by decide⟩ ?_
  refine sx_icmp_ne (tgt := 49) dX12_keepAct_6 (by decide) (fun c2 => ?_) (fun c2 => ?_)
  ·
    refine sx_iconst dX12_keepAct_49 ⟨by decide, by decide⟩ ?_
    refine sx_istore_n dX12_keepAct_50 (by decide) ?_
    refine sx_loop1 (fun (h : sw_H) (k : Int) => (mK (prW [73, 74] [267]) h0 h) ∧ (0 ≤ k) ∧ (0 ≤ h 224 73) ∧ (h 224 73 ≤ 39)) (fun (h : sw_H) (k : Int) => (34 - k).toNat) (fun (h : sw_H) (k : Int) => sw_E G NH SH (d) mX12_keepAct 51 [some (sw_r 224), some (sw_i k)] [] h (sw_Qv (fun h' => mK (prW [73, 74] [267]) h0 h' ∧ (1 ≤ h' 224 73 ∧ h' 224 73 ≤ 40 ∧ h' 224 74 = 0)))) ?_ _ _ ?_
    · rintro h3 k_4 ⟨Ih3, j5, j6, j7⟩ ihh3
      try dsimp only at ihh3
      refine sx_iload_n dX12_keepAct_51 rfl ?_
      refine sx_bipush dX12_keepAct_52 ⟨by decide, by decide, by decide⟩ ?_
      refine sx_icmp_ge (tgt := 83) dX12_keepAct_54 (by decide) (fun c8 => ?_) (fun c8 => ?_)
      ·
        refine sx_aload_n dX12_keepAct_83 rfl ?_
        refine sx_dupr dX12_keepAct_84 ?_
        refine sx_getI (k := 73) cl_12 fl_X12_507 dX12_keepAct_85 s_224 (by decide) rfl (by decide) ?_
        have r9 : (0 : Int) ≤ h3 224 73 ∧ h3 224 73 ≤ 40 := Ih3.1 224 73
        refine sx_iconst dX12_keepAct_88 ⟨by decide, by decide⟩ ?_
        refine sx_iadd dX12_keepAct_89 ?_
        refine sy_topw (by omega) ?_
        refine sy_putI (k := 73) cl_12 fl_X12_507 dX12_keepAct_90 s_224 (by decide) rfl (by decide) rfl rfl (fun h10 eh10 => ?_)
        have Ih10 := Ih3.up eh10 (show (0 : Int) ≤ _ ∧ _ ≤ (40 : Int) from ⟨by omega, by omega⟩) rfl
        have th10_224_73 := eh10.1
        have th10_224_74 := eh10.2 (224) 74 (by decide)
        refine sx_aload_n dX12_keepAct_93 rfl ?_
        refine sx_iconst dX12_keepAct_94 ⟨by decide, by decide⟩ ?_
        refine sy_putI (k := 74) cl_12 fl_X12_510 dX12_keepAct_95 s_224 (by decide) rfl (by decide) rfl rfl (fun h11 eh11 => ?_)
        have Ih11 := Ih10.up eh11 (show (0 : Int) ≤ _ ∧ _ ≤ (40 : Int) from ⟨by omega, by omega⟩) rfl
        have th11_224_73 := eh11.2 (224) 73 (by decide)
        have th11_224_74 := eh11.1
        refine sx_ret dX12_keepAct_98 ?_
        exact ⟨rfl, ⟨Ih11, by omega⟩⟩
      ·
        refine sx_aload_n dX12_keepAct_57 rfl ?_
        refine sx_getS (k := 72) (t := 267) cl_12 fl_X12_145 dX12_keepAct_58 s_224 (by decide) rfl (by decide) ?_
        refine sx_bipush dX12_keepAct_61 ⟨by decide, by decide, by decide⟩ ?_
        refine sx_aload_n dX12_keepAct_63 rfl ?_
        refine sx_getI (k := 73) cl_12 fl_X12_507 dX12_keepAct_64 s_224 (by decide) rfl (by decide) ?_
        have r12 : (0 : Int) ≤ h3 224 73 ∧ h3 224 73 ≤ 40 := Ih3.1 224 73
        refine sx_imul dX12_keepAct_67 ?_
        refine sy_topw (by omega) ?_
        refine sx_iload_n dX12_keepAct_68 rfl ?_
        refine sx_iadd dX12_keepAct_69 ?_
        refine sy_topw (by omega) ?_
        refine sx_aload_n dX12_keepAct_70 rfl ?_
        refine sx_getS (k := 61) (t := 261) cl_12 fl_X12_124 dX12_keepAct_71 s_224 (by decide) rfl (by decide) ?_
        refine sx_iload_n dX12_keepAct_74 rfl ?_
        refine sx_iaload dX12_keepAct_75 s_261 (by decide) (by decide) ⟨by omega, by omega⟩ ?_
        refine sy_iastore dX12_keepAct_76 s_267 (by decide) (by decide) ⟨by omega, by omega⟩ (fun h13 eh13 => ?_)
        have Ih13 := Ih3.up eh13 (by exact omc_all_eq (Or.inl rfl) (Or.inr (Or.inl rfl)) (by omega) (Ih3.1 261 _)) rfl
        have th13_224_73 := eh13.2 (224) 73 (by omega)
        have th13_224_74 := eh13.2 (224) 74 (by omega)
        refine sx_iinc dX12_keepAct_77 (by decide) rfl ?_
        rw [sw_w_id (by omega) (by omega)]
        refine sx_goto (tgt := 51) dX12_keepAct_80 (by decide) ?_
        exact ihh3 _ _ ⟨Ih13, by omega, by omega, by omega⟩ (by exact sy_dec (by omega) (by omega))
    · exact ⟨hI, by omega, by omega, by omega⟩
  ·
    refine sx_iconst dX12_keepAct_9 ⟨by decide, by decide⟩ ?_
    refine sx_istore_n dX12_keepAct_10 (by decide) ?_
    refine sx_loop1 (fun (h : sw_H) (k : Int) => (mK (prW [73, 74] [267]) h0 h) ∧ (0 ≤ k) ∧ (h 224 73 = h0 224 73)) (fun (h : sw_H) (k : Int) => (1360 - k).toNat) (fun (h : sw_H) (k : Int) => sw_E G NH SH (d) mX12_keepAct 11 [some (sw_r 224), some (sw_i k)] [] h (sw_Qv (fun h' => mK (prW [73, 74] [267]) h0 h' ∧ (1 ≤ h' 224 73 ∧ h' 224 73 ≤ 40 ∧ h' 224 74 = 0)))) ?_ _ _ ?_
    · rintro h14 k_15 ⟨Ih14, j16, j17⟩ ihh14
      try dsimp only at ihh14
      refine sx_iload_n dX12_keepAct_11 rfl ?_
      refine sx_sipush dX12_keepAct_12 ⟨by decide, by decide, by decide⟩ ?_
      refine sx_icmp_ge (tgt := 39) dX12_keepAct_15 (by decide) (fun c18 => ?_) (fun c18 => ?_)
      ·
        refine sx_aload_n dX12_keepAct_39 rfl ?_
        refine sx_dupr dX12_keepAct_40 ?_
        refine sx_getI (k := 73) cl_12 fl_X12_507 dX12_keepAct_41 s_224 (by decide) rfl (by decide) ?_
        have r19 : (0 : Int) ≤ h14 224 73 ∧ h14 224 73 ≤ 40 := Ih14.1 224 73
        refine sx_iconst dX12_keepAct_44 ⟨by decide, by decide⟩ ?_
        refine sx_isub dX12_keepAct_45 ?_
        refine sy_topw (by omega) ?_
        refine sy_putI (k := 73) cl_12 fl_X12_507 dX12_keepAct_46 s_224 (by decide) rfl (by decide) rfl rfl (fun h20 eh20 => ?_)
        have Ih20 := Ih14.up eh20 (show (0 : Int) ≤ _ ∧ _ ≤ (40 : Int) from ⟨by omega, by omega⟩) rfl
        have th20_224_73 := eh20.1
        have th20_224_74 := eh20.2 (224) 74 (by decide)
        refine sx_iconst dX12_keepAct_49 ⟨by decide, by decide⟩ ?_
        refine sx_istore_n dX12_keepAct_50 (by decide) ?_
        refine sx_loop1 (fun (h : sw_H) (k : Int) => (mK (prW [73, 74] [267]) h0 h) ∧ (0 ≤ k) ∧ (0 ≤ h 224 73) ∧ (h 224 73 ≤ 39)) (fun (h : sw_H) (k : Int) => (34 - k).toNat) (fun (h : sw_H) (k : Int) => sw_E G NH SH (d) mX12_keepAct 51 [some (sw_r 224), some (sw_i k)] [] h (sw_Qv (fun h' => mK (prW [73, 74] [267]) h0 h' ∧ (1 ≤ h' 224 73 ∧ h' 224 73 ≤ 40 ∧ h' 224 74 = 0)))) ?_ _ _ ?_
        · rintro h21 k_22 ⟨Ih21, j23, j24, j25⟩ ihh21
          try dsimp only at ihh21
          refine sx_iload_n dX12_keepAct_51 rfl ?_
          refine sx_bipush dX12_keepAct_52 ⟨by decide, by decide, by decide⟩ ?_
          refine sx_icmp_ge (tgt := 83) dX12_keepAct_54 (by decide) (fun c26 => ?_) (fun c26 => ?_)
          ·
            refine sx_aload_n dX12_keepAct_83 rfl ?_
            refine sx_dupr dX12_keepAct_84 ?_
            refine sx_getI (k := 73) cl_12 fl_X12_507 dX12_keepAct_85 s_224 (by decide) rfl (by decide) ?_
            have r27 : (0 : Int) ≤ h21 224 73 ∧ h21 224 73 ≤ 40 := Ih21.1 224 73
            refine sx_iconst dX12_keepAct_88 ⟨by decide, by decide⟩ ?_
            refine sx_iadd dX12_keepAct_89 ?_
            refine sy_topw (by omega) ?_
            refine sy_putI (k := 73) cl_12 fl_X12_507 dX12_keepAct_90 s_224 (by decide) rfl (by decide) rfl rfl (fun h28 eh28 => ?_)
            have Ih28 := Ih21.up eh28 (show (0 : Int) ≤ _ ∧ _ ≤ (40 : Int) from ⟨by omega, by omega⟩) rfl
            have th28_224_73 := eh28.1
            have th28_224_74 := eh28.2 (224) 74 (by decide)
            refine sx_aload_n dX12_keepAct_93 rfl ?_
            refine sx_iconst dX12_keepAct_94 ⟨by decide, by decide⟩ ?_
            refine sy_putI (k := 74) cl_12 fl_X12_510 dX12_keepAct_95 s_224 (by decide) rfl (by decide) rfl rfl (fun h29 eh29 => ?_)
            have Ih29 := Ih28.up eh29 (show (0 : Int) ≤ _ ∧ _ ≤ (40 : Int) from ⟨by omega, by omega⟩) rfl
            have th29_224_73 := eh29.2 (224) 73 (by decide)
            have th29_224_74 := eh29.1
            refine sx_ret dX12_keepAct_98 ?_
            exact ⟨rfl, ⟨Ih29, by omega⟩⟩
          ·
            refine sx_aload_n dX12_keepAct_57 rfl ?_
            refine sx_getS (k := 72) (t := 267) cl_12 fl_X12_145 dX12_keepAct_58 s_224 (by decide) rfl (by decide) ?_
            refine sx_bipush dX12_keepAct_61 ⟨by decide, by decide, by decide⟩ ?_
            refine sx_aload_n dX12_keepAct_63 rfl ?_
            refine sx_getI (k := 73) cl_12 fl_X12_507 dX12_keepAct_64 s_224 (by decide) rfl (by decide) ?_
            have r30 : (0 : Int) ≤ h21 224 73 ∧ h21 224 73 ≤ 40 := Ih21.1 224 73
            refine sx_imul dX12_keepAct_67 ?_
            refine sy_topw (by omega) ?_
            refine sx_iload_n dX12_keepAct_68 rfl ?_
            refine sx_iadd dX12_keepAct_69 ?_
            refine sy_topw (by omega) ?_
            refine sx_aload_n dX12_keepAct_70 rfl ?_
            refine sx_getS (k := 61) (t := 261) cl_12 fl_X12_124 dX12_keepAct_71 s_224 (by decide) rfl (by decide) ?_
            refine sx_iload_n dX12_keepAct_74 rfl ?_
            refine sx_iaload dX12_keepAct_75 s_261 (by decide) (by decide) ⟨by omega, by omega⟩ ?_
            refine sy_iastore dX12_keepAct_76 s_267 (by decide) (by decide) ⟨by omega, by omega⟩ (fun h31 eh31 => ?_)
            have Ih31 := Ih21.up eh31 (by exact omc_all_eq (Or.inl rfl) (Or.inr (Or.inl rfl)) (by omega) (Ih21.1 261 _)) rfl
            have th31_224_73 := eh31.2 (224) 73 (by omega)
            have th31_224_74 := eh31.2 (224) 74 (by omega)
            refine sx_iinc dX12_keepAct_77 (by decide) rfl ?_
            rw [sw_w_id (by omega) (by omega)]
            refine sx_goto (tgt := 51) dX12_keepAct_80 (by decide) ?_
            exact ihh21 _ _ ⟨Ih31, by omega, by omega, by omega⟩ (by exact sy_dec (by omega) (by omega))
        · exact ⟨Ih20, by omega, by omega, by omega⟩
      ·
        refine sx_aload_n dX12_keepAct_18 rfl ?_
        refine sx_getS (k := 72) (t := 267) cl_12 fl_X12_145 dX12_keepAct_19 s_224 (by decide) rfl (by decide) ?_
        refine sx_iload_n dX12_keepAct_22 rfl ?_
        refine sx_aload_n dX12_keepAct_23 rfl ?_
        refine sx_getS (k := 72) (t := 267) cl_12 fl_X12_145 dX12_keepAct_24 s_224 (by decide) rfl (by decide) ?_
        refine sx_iload_n dX12_keepAct_27 rfl ?_
        refine sx_bipush dX12_keepAct_28 ⟨by decide, by decide, by decide⟩ ?_
        refine sx_iadd dX12_keepAct_30 ?_
        refine sy_topw (by omega) ?_
        refine sx_iaload dX12_keepAct_31 s_267 (by decide) (by decide) ⟨by omega, by omega⟩ ?_
        refine sy_iastore dX12_keepAct_32 s_267 (by decide) (by decide) ⟨by omega, by omega⟩ (fun h32 eh32 => ?_)
        have Ih32 := Ih14.up eh32 (by exact omc_all_eq (Or.inr (Or.inl rfl)) (Or.inr (Or.inl rfl)) (by omega) (Ih14.1 267 _)) rfl
        have th32_224_73 := eh32.2 (224) 73 (by omega)
        have th32_224_74 := eh32.2 (224) 74 (by omega)
        refine sx_iinc dX12_keepAct_33 (by decide) rfl ?_
        rw [sw_w_id (by omega) (by omega)]
        refine sx_goto (tgt := 11) dX12_keepAct_36 (by decide) ?_
        exact ihh14 _ _ ⟨Ih32, by omega, by omega⟩ (by exact sy_dec (by omega) (by omega))
    · exact ⟨hI, by omega, by omega⟩
set_option maxRecDepth 20000 in
set_option maxHeartbeats 4000000 in
theorem c_X12_fromEarnest {G : sw_G} (d : Nat) {h0 : sw_H} (hJ : mI h0)  : sw_E G NH SH (d) mX12_fromEarnest 0 [some (sw_r 224), none] [] h0 (sw_Qv (fun h' => mK (prW [67, 68] [262, 263]) h0 h' ∧ (h' 224 67 = h0 261 30 ∧ h' 224 68 = h0 261 31 ∧ 0 ≤ h0 261 30 ∧ h0 261 30 ≤ 24 ∧ 0 ≤ h0 261 31 ∧ h0 261 31 ≤ 6))) := by
  have hI : mK (prW [67, 68] [262, 263]) h0 h0 := mK.refl hJ
  have r30 : (0 : Int) ≤ h0 261 30 ∧ h0 261 30 ≤ 24 := hI.1 261 30
  have r31 : (0 : Int) ≤ h0 261 31 ∧ h0 261 31 ≤ 6 := hI.1 261 31
  refine sx_aload_n dX12_fromEarnest_0 rfl ?_
  refine sx_aload_n dX12_fromEarnest_1 rfl ?_
  refine sx_getS (k := 61) (t := 261) cl_12 fl_X12_124 dX12_fromEarnest_2 s_224 (by decide) rfl (by decide) ?_
  refine sx_bipush dX12_fromEarnest_5 ⟨by decide, by decide, by decide⟩ ?_
  refine sy_iaK (k := 30) (F := fun z => (0 : Int) ≤ z ∧ z ≤ 24) rfl dX12_fromEarnest_7 s_261 (by decide) (by decide) ⟨by decide, by decide⟩ (hI.1 261 30) (fun r1 => ?_)
  refine sy_putI (k := 67) cl_12 fl_X12_522 dX12_fromEarnest_8 s_224 (by decide) rfl (by decide) rfl rfl (fun h2 eh2 => ?_)
  have Ih2 := hI.up eh2 trivial rfl
  have th2_224_67 := eh2.1
  have th2_224_68 := eh2.2 (224) 68 (by decide)
  have th2_261_30 := eh2.2 (261) 30 (by decide)
  have th2_261_31 := eh2.2 (261) 31 (by decide)
  refine sx_aload_n dX12_fromEarnest_11 rfl ?_
  refine sx_aload_n dX12_fromEarnest_12 rfl ?_
  refine sx_getS (k := 61) (t := 261) cl_12 fl_X12_124 dX12_fromEarnest_13 s_224 (by decide) rfl (by decide) ?_
  refine sx_bipush dX12_fromEarnest_16 ⟨by decide, by decide, by decide⟩ ?_
  refine sy_iaK (k := 31) (F := fun z => (0 : Int) ≤ z ∧ z ≤ 6) rfl dX12_fromEarnest_18 s_261 (by decide) (by decide) ⟨by decide, by decide⟩ (Ih2.1 261 31) (fun r3 => ?_)
  refine sy_putI (k := 68) cl_12 fl_X12_528 dX12_fromEarnest_19 s_224 (by decide) rfl (by decide) rfl rfl (fun h4 eh4 => ?_)
  have Ih4 := Ih2.up eh4 trivial rfl
  have th4_224_67 := eh4.2 (224) 67 (by decide)
  have th4_224_68 := eh4.1
  have th4_261_30 := eh4.2 (261) 30 (by decide)
  have th4_261_31 := eh4.2 (261) 31 (by decide)
  refine sx_iconst dX12_fromEarnest_22 ⟨by decide, by decide⟩ ?_
  refine sx_istore_n dX12_fromEarnest_23 (by decide) ?_
  refine sx_loop1 (fun (h : sw_H) (k : Int) => (mK (prW [67, 68] [262, 263]) h0 h) ∧ (0 ≤ k) ∧ (h 224 67 = h0 261 30) ∧ (h 224 68 = h0 261 31)) (fun (h : sw_H) (k : Int) => (96 - k).toNat) (fun (h : sw_H) (k : Int) => sw_E G NH SH (d) mX12_fromEarnest 24 [some (sw_r 224), some (sw_i k)] [] h (sw_Qv (fun h' => mK (prW [67, 68] [262, 263]) h0 h' ∧ (h' 224 67 = h0 261 30 ∧ h' 224 68 = h0 261 31 ∧ 0 ≤ h0 261 30 ∧ h0 261 30 ≤ 24 ∧ 0 ≤ h0 261 31 ∧ h0 261 31 ≤ 6)))) ?_ _ _ ?_
  · rintro h5 k_6 ⟨Ih5, j7, j8, j9⟩ ihh5
    try dsimp only at ihh5
    refine sx_iload_n dX12_fromEarnest_24 rfl ?_
    refine sx_aload_n dX12_fromEarnest_25 rfl ?_
    refine sx_getI (k := 67) cl_12 fl_X12_522 dX12_fromEarnest_26 s_224 (by decide) rfl (by decide) ?_
    refine sx_icmp_ge (tgt := 52) dX12_fromEarnest_29 (by decide) (fun c10 => ?_) (fun c10 => ?_)
    ·
      refine sx_iconst dX12_fromEarnest_52 ⟨by decide, by decide⟩ ?_
      refine sx_istore_n dX12_fromEarnest_53 (by decide) ?_
      refine sx_loop1 (fun (h : sw_H) (k : Int) => (mK (prW [67, 68] [262, 263]) h0 h) ∧ (0 ≤ k) ∧ (h 224 67 = h0 261 30) ∧ (h 224 68 = h0 261 31)) (fun (h : sw_H) (k : Int) => (96 - k).toNat) (fun (h : sw_H) (k : Int) => sw_E G NH SH (d) mX12_fromEarnest 54 [some (sw_r 224), some (sw_i k)] [] h (sw_Qv (fun h' => mK (prW [67, 68] [262, 263]) h0 h' ∧ (h' 224 67 = h0 261 30 ∧ h' 224 68 = h0 261 31 ∧ 0 ≤ h0 261 30 ∧ h0 261 30 ≤ 24 ∧ 0 ≤ h0 261 31 ∧ h0 261 31 ≤ 6)))) ?_ _ _ ?_
      · rintro h11 k_12 ⟨Ih11, j13, j14, j15⟩ ihh11
        try dsimp only at ihh11
        refine sx_iload_n dX12_fromEarnest_54 rfl ?_
        refine sx_aload_n dX12_fromEarnest_55 rfl ?_
        refine sx_getI (k := 68) cl_12 fl_X12_528 dX12_fromEarnest_56 s_224 (by decide) rfl (by decide) ?_
        refine sx_icmp_ge (tgt := 83) dX12_fromEarnest_59 (by decide) (fun c16 => ?_) (fun c16 => ?_)
        ·
          refine sx_ret dX12_fromEarnest_83 ?_
          exact ⟨rfl, ⟨Ih11, by omega⟩⟩
        ·
          refine sx_aload_n dX12_fromEarnest_62 rfl ?_
          refine sx_getS (k := 63) (t := 263) cl_12 fl_X12_130 dX12_fromEarnest_63 s_224 (by decide) rfl (by decide) ?_
          refine sx_iload_n dX12_fromEarnest_66 rfl ?_
          refine sx_aload_n dX12_fromEarnest_67 rfl ?_
          refine sx_getS (k := 61) (t := 261) cl_12 fl_X12_124 dX12_fromEarnest_68 s_224 (by decide) rfl (by decide) ?_
          refine sx_bipush dX12_fromEarnest_71 ⟨by decide, by decide, by decide⟩ ?_
          refine sx_iload_n dX12_fromEarnest_73 rfl ?_
          refine sx_iadd dX12_fromEarnest_74 ?_
          refine sy_topw (by omega) ?_
          refine sx_iaload dX12_fromEarnest_75 s_261 (by decide) (by decide) ⟨by omega, by omega⟩ ?_
          refine sy_iastore dX12_fromEarnest_76 s_263 (by decide) (by decide) ⟨by omega, by omega⟩ (fun h17 eh17 => ?_)
          have Ih17 := Ih11.up eh17 trivial rfl
          have th17_224_67 := eh17.2 (224) 67 (by omega)
          have th17_224_68 := eh17.2 (224) 68 (by omega)
          have th17_261_30 := eh17.2 (261) 30 (by omega)
          have th17_261_31 := eh17.2 (261) 31 (by omega)
          refine sx_iinc dX12_fromEarnest_77 (by decide) rfl ?_
          rw [sw_w_id (by omega) (by omega)]
          refine sx_goto (tgt := 54) dX12_fromEarnest_80 (by decide) ?_
          exact ihh11 _ _ ⟨Ih17, by omega, by omega, by omega⟩ (by exact sy_dec (by omega) (by omega))
      · exact ⟨Ih5, by omega, by omega, by omega⟩
    ·
      refine sx_aload_n dX12_fromEarnest_32 rfl ?_
      refine sx_getS (k := 62) (t := 262) cl_12 fl_X12_127 dX12_fromEarnest_33 s_224 (by decide) rfl (by decide) ?_
      refine sx_iload_n dX12_fromEarnest_36 rfl ?_
      refine sx_aload_n dX12_fromEarnest_37 rfl ?_
      refine sx_getS (k := 61) (t := 261) cl_12 fl_X12_124 dX12_fromEarnest_38 s_224 (by decide) rfl (by decide) ?_
      refine sx_iconst dX12_fromEarnest_41 ⟨by decide, by decide⟩ ?_
      refine sx_iload_n dX12_fromEarnest_42 rfl ?_
      refine sx_iadd dX12_fromEarnest_43 ?_
      refine sy_topw (by omega) ?_
      refine sx_iaload dX12_fromEarnest_44 s_261 (by decide) (by decide) ⟨by omega, by omega⟩ ?_
      refine sy_iastore dX12_fromEarnest_45 s_262 (by decide) (by decide) ⟨by omega, by omega⟩ (fun h18 eh18 => ?_)
      have Ih18 := Ih5.up eh18 trivial rfl
      have th18_224_67 := eh18.2 (224) 67 (by omega)
      have th18_224_68 := eh18.2 (224) 68 (by omega)
      have th18_261_30 := eh18.2 (261) 30 (by omega)
      have th18_261_31 := eh18.2 (261) 31 (by omega)
      refine sx_iinc dX12_fromEarnest_46 (by decide) rfl ?_
      rw [sw_w_id (by omega) (by omega)]
      refine sx_goto (tgt := 24) dX12_fromEarnest_49 (by decide) ?_
      exact ihh5 _ _ ⟨Ih18, by omega, by omega, by omega⟩ (by exact sy_dec (by omega) (by omega))
  · exact ⟨Ih4, by omega, by omega, by omega⟩
set_option maxRecDepth 20000 in
set_option maxHeartbeats 4000000 in
theorem c_X12_toEarnest {G : sw_G} (d : Nat) {h0 : sw_H} (hJ : mI h0) (hc : 0 ≤ h0 224 67 ∧ h0 224 67 ≤ 24 ∧ 0 ≤ h0 224 68 ∧ h0 224 68 ≤ 6)  : sw_E G NH SH (d) mX12_toEarnest 0 [some (sw_r 224), none] [] h0 (sw_Qi (fun z h' => mK (prW [] [261]) h0 h')) := by
  have hI : mK (prW [] [261]) h0 h0 := mK.refl hJ
  refine sx_aload_n dX12_toEarnest_0 rfl ?_
  refine sx_getS (k := 61) (t := 261) cl_12 fl_X12_124 dX12_toEarnest_1 s_224 (by decide) rfl (by decide) ?_
  refine sx_bipush dX12_toEarnest_4 ⟨by decide, by decide, by decide⟩ ?_
  refine sx_aload_n dX12_toEarnest_6 rfl ?_
  refine sx_getI (k := 67) cl_12 fl_X12_522 dX12_toEarnest_7 s_224 (by decide) rfl (by decide) ?_
  refine sy_iastore dX12_toEarnest_10 s_261 (by decide) (by decide) ⟨by omega, by omega⟩ (fun h1 eh1 => ?_)
  have Ih1 := hI.up eh1 (show (0 : Int) ≤ _ ∧ _ ≤ (24 : Int) from ⟨by omega, by omega⟩) rfl
  have th1_224_67 := eh1.2 (224) 67 (by omega)
  have th1_224_68 := eh1.2 (224) 68 (by omega)
  refine sx_aload_n dX12_toEarnest_11 rfl ?_
  refine sx_getS (k := 61) (t := 261) cl_12 fl_X12_124 dX12_toEarnest_12 s_224 (by decide) rfl (by decide) ?_
  refine sx_bipush dX12_toEarnest_15 ⟨by decide, by decide, by decide⟩ ?_
  refine sx_aload_n dX12_toEarnest_17 rfl ?_
  refine sx_getI (k := 68) cl_12 fl_X12_528 dX12_toEarnest_18 s_224 (by decide) rfl (by decide) ?_
  refine sy_iastore dX12_toEarnest_21 s_261 (by decide) (by decide) ⟨by omega, by omega⟩ (fun h2 eh2 => ?_)
  have Ih2 := Ih1.up eh2 (show (0 : Int) ≤ _ ∧ _ ≤ (6 : Int) from ⟨by omega, by omega⟩) rfl
  have th2_224_67 := eh2.2 (224) 67 (by omega)
  have th2_224_68 := eh2.2 (224) 68 (by omega)
  refine sx_iconst dX12_toEarnest_22 ⟨by decide, by decide⟩ ?_
  refine sx_istore_n dX12_toEarnest_23 (by decide) ?_
  refine sx_loop1 (fun (h : sw_H) (k : Int) => (mK (prW [] [261]) h0 h) ∧ (0 ≤ k) ∧ (h 224 67 = h0 224 67) ∧ (h 224 68 = h0 224 68)) (fun (h : sw_H) (k : Int) => (24 - k).toNat) (fun (h : sw_H) (k : Int) => sw_E G NH SH (d) mX12_toEarnest 24 [some (sw_r 224), some (sw_i k)] [] h (sw_Qi (fun z h' => mK (prW [] [261]) h0 h'))) ?_ _ _ ?_
  · rintro h3 k_4 ⟨Ih3, j5, j6, j7⟩ ihh3
    try dsimp only at ihh3
    refine sx_iload_n dX12_toEarnest_24 rfl ?_
    refine sx_bipush dX12_toEarnest_25 ⟨by decide, by decide, by decide⟩ ?_
    refine sx_icmp_ge (tgt := 62) dX12_toEarnest_27 (by decide) (fun c8 => ?_) (fun c8 => ?_)
    ·
      refine sx_iconst dX12_toEarnest_62 ⟨by decide, by decide⟩ ?_
      refine sx_istore_n dX12_toEarnest_63 (by decide) ?_
      refine sx_loop1 (fun (h : sw_H) (k : Int) => (mK (prW [] [261]) h0 h) ∧ (0 ≤ k) ∧ (h 224 67 = h0 224 67) ∧ (h 224 68 = h0 224 68)) (fun (h : sw_H) (k : Int) => (6 - k).toNat) (fun (h : sw_H) (k : Int) => sw_E G NH SH (d) mX12_toEarnest 64 [some (sw_r 224), some (sw_i k)] [] h (sw_Qi (fun z h' => mK (prW [] [261]) h0 h'))) ?_ _ _ ?_
      · rintro h9 k_10 ⟨Ih9, j11, j12, j13⟩ ihh9
        try dsimp only at ihh9
        refine sx_iload_n dX12_toEarnest_64 rfl ?_
        refine sx_bipush dX12_toEarnest_65 ⟨by decide, by decide, by decide⟩ ?_
        refine sx_icmp_ge (tgt := 103) dX12_toEarnest_67 (by decide) (fun c14 => ?_) (fun c14 => ?_)
        ·
          refine sx_aload_n dX12_toEarnest_103 rfl ?_
          refine sx_getI (k := 67) cl_12 fl_X12_522 dX12_toEarnest_104 s_224 (by decide) rfl (by decide) ?_
          refine sx_ireturn dX12_toEarnest_107 ?_
          exact ⟨_, rfl, Ih9⟩
        ·
          refine sx_aload_n dX12_toEarnest_70 rfl ?_
          refine sx_getS (k := 61) (t := 261) cl_12 fl_X12_124 dX12_toEarnest_71 s_224 (by decide) rfl (by decide) ?_
          refine sx_bipush dX12_toEarnest_74 ⟨by decide, by decide, by decide⟩ ?_
          refine sx_iload_n dX12_toEarnest_76 rfl ?_
          refine sx_iadd dX12_toEarnest_77 ?_
          refine sy_topw (by omega) ?_
          refine sx_iload_n dX12_toEarnest_78 rfl ?_
          refine sx_aload_n dX12_toEarnest_79 rfl ?_
          refine sx_getI (k := 68) cl_12 fl_X12_528 dX12_toEarnest_80 s_224 (by decide) rfl (by decide) ?_
          refine sx_icmp_ge (tgt := 95) dX12_toEarnest_83 (by decide) (fun c15 => ?_) (fun c15 => ?_)
          ·
            refine sx_iconst dX12_toEarnest_95 ⟨by decide, by decide⟩ ?_
            refine sy_iastore dX12_toEarnest_96 s_261 (by decide) (by decide) ⟨by omega, by omega⟩ (fun h16 eh16 => ?_)
            have Ih16 := Ih9.up eh16 (by exact omc_all_lt (Or.inl rfl) (by omega) (by omega)) rfl
            have th16_224_67 := eh16.2 (224) 67 (by omega)
            have th16_224_68 := eh16.2 (224) 68 (by omega)
            refine sx_iinc dX12_toEarnest_97 (by decide) rfl ?_
            rw [sw_w_id (by omega) (by omega)]
            refine sx_goto (tgt := 64) dX12_toEarnest_100 (by decide) ?_
            exact ihh9 _ _ ⟨Ih16, by omega, by omega, by omega⟩ (by exact sy_dec (by omega) (by omega))
          ·
            refine sx_aload_n dX12_toEarnest_86 rfl ?_
            refine sx_getS (k := 63) (t := 263) cl_12 fl_X12_130 dX12_toEarnest_87 s_224 (by decide) rfl (by decide) ?_
            refine sx_iload_n dX12_toEarnest_90 rfl ?_
            refine sx_iaload dX12_toEarnest_91 s_263 (by decide) (by decide) ⟨by omega, by omega⟩ ?_
            refine sx_goto (tgt := 96) dX12_toEarnest_92 (by decide) ?_
            refine sy_iastore dX12_toEarnest_96 s_261 (by decide) (by decide) ⟨by omega, by omega⟩ (fun h17 eh17 => ?_)
            have Ih17 := Ih9.up eh17 (by exact omc_all_lt (Or.inl rfl) (by omega) (by omega)) rfl
            have th17_224_67 := eh17.2 (224) 67 (by omega)
            have th17_224_68 := eh17.2 (224) 68 (by omega)
            refine sx_iinc dX12_toEarnest_97 (by decide) rfl ?_
            rw [sw_w_id (by omega) (by omega)]
            refine sx_goto (tgt := 64) dX12_toEarnest_100 (by decide) ?_
            exact ihh9 _ _ ⟨Ih17, by omega, by omega, by omega⟩ (by exact sy_dec (by omega) (by omega))
      · exact ⟨Ih3, by omega, by omega, by omega⟩
    ·
      refine sx_aload_n dX12_toEarnest_30 rfl ?_
      refine sx_getS (k := 61) (t := 261) cl_12 fl_X12_124 dX12_toEarnest_31 s_224 (by decide) rfl (by decide) ?_
      refine sx_iconst dX12_toEarnest_34 ⟨by decide, by decide⟩ ?_
      refine sx_iload_n dX12_toEarnest_35 rfl ?_
      refine sx_iadd dX12_toEarnest_36 ?_
      refine sy_topw (by omega) ?_
      refine sx_iload_n dX12_toEarnest_37 rfl ?_
      refine sx_aload_n dX12_toEarnest_38 rfl ?_
      refine sx_getI (k := 67) cl_12 fl_X12_522 dX12_toEarnest_39 s_224 (by decide) rfl (by decide) ?_
      refine sx_icmp_ge (tgt := 54) dX12_toEarnest_42 (by decide) (fun c18 => ?_) (fun c18 => ?_)
      ·
        refine sx_iconst dX12_toEarnest_54 ⟨by decide, by decide⟩ ?_
        refine sy_iastore dX12_toEarnest_55 s_261 (by decide) (by decide) ⟨by omega, by omega⟩ (fun h19 eh19 => ?_)
        have Ih19 := Ih3.up eh19 (by exact omc_all_lt (Or.inl rfl) (by omega) (by omega)) rfl
        have th19_224_67 := eh19.2 (224) 67 (by omega)
        have th19_224_68 := eh19.2 (224) 68 (by omega)
        refine sx_iinc dX12_toEarnest_56 (by decide) rfl ?_
        rw [sw_w_id (by omega) (by omega)]
        refine sx_goto (tgt := 24) dX12_toEarnest_59 (by decide) ?_
        exact ihh3 _ _ ⟨Ih19, by omega, by omega, by omega⟩ (by exact sy_dec (by omega) (by omega))
      ·
        refine sx_aload_n dX12_toEarnest_45 rfl ?_
        refine sx_getS (k := 62) (t := 262) cl_12 fl_X12_127 dX12_toEarnest_46 s_224 (by decide) rfl (by decide) ?_
        refine sx_iload_n dX12_toEarnest_49 rfl ?_
        refine sx_iaload dX12_toEarnest_50 s_262 (by decide) (by decide) ⟨by omega, by omega⟩ ?_
        refine sx_goto (tgt := 55) dX12_toEarnest_51 (by decide) ?_
        refine sy_iastore dX12_toEarnest_55 s_261 (by decide) (by decide) ⟨by omega, by omega⟩ (fun h20 eh20 => ?_)
        have Ih20 := Ih3.up eh20 (by exact omc_all_lt (Or.inl rfl) (by omega) (by omega)) rfl
        have th20_224_67 := eh20.2 (224) 67 (by omega)
        have th20_224_68 := eh20.2 (224) 68 (by omega)
        refine sx_iinc dX12_toEarnest_56 (by decide) rfl ?_
        rw [sw_w_id (by omega) (by omega)]
        refine sx_goto (tgt := 24) dX12_toEarnest_59 (by decide) ?_
        exact ihh3 _ _ ⟨Ih20, by omega, by omega, by omega⟩ (by exact sy_dec (by omega) (by omega))
  · exact ⟨Ih2, by omega, by omega, by omega⟩
set_option maxRecDepth 20000 in
set_option maxHeartbeats 4000000 in
theorem c_X12_swapAll {G : sw_G} (d : Nat) {h0 : sw_H} (hJ : mI h0)  : sw_E G NH SH (d) mX12_swapAll 0 [some (sw_r 224), none, none] [] h0 (sw_Qv (fun h' => mK (prW [] [261, 267]) h0 h')) := by
  have hI : mK (prW [] [261, 267]) h0 h0 := mK.refl hJ
  have r73 : (0 : Int) ≤ h0 224 73 ∧ h0 224 73 ≤ 40 := hI.1 224 73
  refine sx_iconst dX12_swapAll_0 ⟨by decide, by decide⟩ ?_
  refine sx_istore_n dX12_swapAll_1 (by decide) ?_
  refine sx_loop1 (fun (h : sw_H) (k : Int) => (mK (prW [] [261, 267]) h0 h) ∧ (0 ≤ k) ∧ (h 224 73 = h0 224 73)) (fun (h : sw_H) (k : Int) => (34 - k).toNat) (fun (h : sw_H) (k : Int) => sw_E G NH SH (d) mX12_swapAll 2 [some (sw_r 224), some (sw_i k), none] [] h (sw_Qv (fun h' => mK (prW [] [261, 267]) h0 h'))) ?_ _ _ ?_
  · rintro h1 k_2 ⟨Ih1, j3, j4⟩ ihh1
    try dsimp only at ihh1
    refine sx_iload_n dX12_swapAll_2 rfl ?_
    refine sx_bipush dX12_swapAll_3 ⟨by decide, by decide, by decide⟩ ?_
    refine sx_icmp_ge (tgt := 56) dX12_swapAll_5 (by decide) (fun c5 => ?_) (fun c5 => ?_)
    ·
      refine sx_ret dX12_swapAll_56 ?_
      exact ⟨rfl, Ih1⟩
    ·
      refine sx_aload_n dX12_swapAll_8 rfl ?_
      refine sx_getS (k := 72) (t := 267) cl_12 fl_X12_145 dX12_swapAll_9 s_224 (by decide) rfl (by decide) ?_
      refine sx_bipush dX12_swapAll_12 ⟨by decide, by decide, by decide⟩ ?_
      refine sx_aload_n dX12_swapAll_14 rfl ?_
      refine sx_getI (k := 73) cl_12 fl_X12_507 dX12_swapAll_15 s_224 (by decide) rfl (by decide) ?_
      have r6 : (0 : Int) ≤ h1 224 73 ∧ h1 224 73 ≤ 40 := Ih1.1 224 73
      refine sx_imul dX12_swapAll_18 ?_
      refine sy_topw (by omega) ?_
      refine sx_iload_n dX12_swapAll_19 rfl ?_
      refine sx_iadd dX12_swapAll_20 ?_
      refine sy_topw (by omega) ?_
      refine sx_iaload dX12_swapAll_21 s_267 (by decide) (by decide) ⟨by omega, by omega⟩ ?_
      refine sy_top (fun v7 ev7 => ?_)
      refine sx_istore_n dX12_swapAll_22 (by decide) ?_
      have ov : omc 261 (k_2).toNat v7 := by rw [ev7]; exact omc_all_eq (Or.inr (Or.inl rfl)) (Or.inl rfl) (by omega) (Ih1.1 267 _)
      refine sx_aload_n dX12_swapAll_23 rfl ?_
      refine sx_getS (k := 72) (t := 267) cl_12 fl_X12_145 dX12_swapAll_24 s_224 (by decide) rfl (by decide) ?_
      refine sx_bipush dX12_swapAll_27 ⟨by decide, by decide, by decide⟩ ?_
      refine sx_aload_n dX12_swapAll_29 rfl ?_
      refine sx_getI (k := 73) cl_12 fl_X12_507 dX12_swapAll_30 s_224 (by decide) rfl (by decide) ?_
      have r8 : (0 : Int) ≤ h1 224 73 ∧ h1 224 73 ≤ 40 := Ih1.1 224 73
      refine sx_imul dX12_swapAll_33 ?_
      refine sy_topw (by omega) ?_
      refine sx_iload_n dX12_swapAll_34 rfl ?_
      refine sx_iadd dX12_swapAll_35 ?_
      refine sy_topw (by omega) ?_
      refine sx_aload_n dX12_swapAll_36 rfl ?_
      refine sx_getS (k := 61) (t := 261) cl_12 fl_X12_124 dX12_swapAll_37 s_224 (by decide) rfl (by decide) ?_
      refine sx_iload_n dX12_swapAll_40 rfl ?_
      refine sx_iaload dX12_swapAll_41 s_261 (by decide) (by decide) ⟨by omega, by omega⟩ ?_
      refine sy_iastore dX12_swapAll_42 s_267 (by decide) (by decide) ⟨by omega, by omega⟩ (fun h9 eh9 => ?_)
      have Ih9 := Ih1.up eh9 (by exact omc_all_eq (Or.inl rfl) (Or.inr (Or.inl rfl)) (by omega) (Ih1.1 261 _)) rfl
      have th9_224_73 := eh9.2 (224) 73 (by omega)
      refine sx_aload_n dX12_swapAll_43 rfl ?_
      refine sx_getS (k := 61) (t := 261) cl_12 fl_X12_124 dX12_swapAll_44 s_224 (by decide) rfl (by decide) ?_
      refine sx_iload_n dX12_swapAll_47 rfl ?_
      refine sx_iload_n dX12_swapAll_48 rfl ?_
      refine sy_iastore dX12_swapAll_49 s_261 (by decide) (by decide) ⟨by omega, by omega⟩ (fun h10 eh10 => ?_)
      have Ih10 := Ih9.up eh10 (by exact ov) rfl
      have th10_224_73 := eh10.2 (224) 73 (by omega)
      refine sx_iinc dX12_swapAll_50 (by decide) rfl ?_
      rw [sw_w_id (by omega) (by omega)]
      refine sx_goto (tgt := 2) dX12_swapAll_53 (by decide) ?_
      refine sx_kill 2 ?_
      exact ihh1 _ _ ⟨Ih10, by omega, by omega⟩ (by exact sy_dec (by omega) (by omega))
  · exact ⟨hI, by omega, by omega⟩
set_option maxRecDepth 20000 in
set_option maxHeartbeats 4000000 in
theorem c_X12_lay {G : sw_G} (d : Nat) {h0 : sw_H} (hJ : mI h0) (y1 : Int) (hB : mB h0)  : sw_E G NH SH (d + 1) mX12_lay 0 [some (sw_r 224), some (sw_i y1)] [] h0 (sw_Qi (fun z h' => mK (prW [67, 68, 73, 74] [261, 262, 263, 267]) h0 h' ∧ (mB h') ∧ (h' 224 100 = h0 224 100))) := by
  have hI : mK (prW [67, 68, 73, 74] [261, 262, 263, 267]) h0 h0 := mK.refl hJ
  have hB2 := hB.2
  have r30 : (0 : Int) ≤ h0 261 30 ∧ h0 261 30 ≤ 24 := hI.1 261 30
  have r31 : (0 : Int) ≤ h0 261 31 ∧ h0 261 31 ≤ 6 := hI.1 261 31
  refine sx_iload_n dX12_lay_0 rfl ?_
  refine sx_iconst dX12_lay_1 ⟨by decide, by decide⟩ ?_
  refine sx_sipush dX12_lay_2 ⟨by decide, by decide, by decide⟩ ?_
  refine sx_callSz lk_X12_500 dX12_lay_5 (vs := [_, _, _]) rfl rfl (Nat.le_of_ble_eq_true rfl) (Nat.le_of_ble_eq_true rfl) rfl (c_X12_isIn _ hI.1 _ _ _) (fun x2 h1 zx2 ph1 => ?_)
  obtain ⟨rfl, p_x2⟩ := ph1
  refine sx_if_eq (tgt := 23) dX12_lay_8 (by decide) (fun c3 => ?_) (fun c3 => ?_)
  ·
    replace p_x2 := mt p_x2.mpr (show ¬ (x2 = 1) by rw [c3]; decide)
    clear zx2
    refine sx_iconst dX12_lay_23 ⟨by decide, by decide⟩ ?_
    refine sx_ireturn dX12_lay_24 ?_
    exact ⟨_, rfl, ⟨hI, ⟨mC_mK hI rfl rfl hJ hB.1, by have := hB.2; omega, by have := hB.2; omega, by have := hB.2; omega⟩, hI.2 224 100 rfl⟩⟩
  ·
    have vx2 : x2 = 1 := by rcases zx2 with q | q; (exact absurd q c3); exact q
    replace p_x2 := p_x2.mp vx2
    clear zx2
    refine sx_aload_n dX12_lay_11 rfl ?_
    refine sx_getS (k := 61) (t := 261) cl_12 fl_X12_124 dX12_lay_12 s_224 (by decide) rfl (by decide) ?_
    refine sx_bipush dX12_lay_15 ⟨by decide, by decide, by decide⟩ ?_
    refine sy_iaK (k := 30) (F := fun z => (0 : Int) ≤ z ∧ z ≤ 24) rfl dX12_lay_17 s_261 (by decide) (by decide) ⟨by decide, by decide⟩ (hI.1 261 30) (fun r4 => ?_)
    refine sx_bipush dX12_lay_18 ⟨by decide, by decide, by decide⟩ ?_
    refine sx_icmp_ne (tgt := 25) dX12_lay_20 (by decide) (fun c5 => ?_) (fun c5 => ?_)
    ·
      refine sx_aload_n dX12_lay_25 rfl ?_
      refine sx_callVv lk_X12_561 cl_12 s_224 (by decide) dX12_lay_26 (vs := []) rfl rfl (Nat.le_of_ble_eq_true rfl) (Nat.le_of_ble_eq_true rfl) rfl (c_X12_keepAct _ hI.1) (fun h6 ph6 => ?_)
      obtain ⟨Kh6, s_h6⟩ := ph6
      have Ih6 := hI.tr Kh6 (prW_sub rfl rfl)
      have th6_224_67 := Kh6.2 224 67 rfl
      have th6_224_68 := Kh6.2 224 68 rfl
      have th6_224_71 := Kh6.2 224 71 rfl
      have th6_224_85 := Kh6.2 224 85 rfl
      have th6_224_100 := Kh6.2 224 100 rfl
      have th6_261_30 := Kh6.2 261 30 rfl
      have th6_261_31 := Kh6.2 261 31 rfl
      refine sx_aload_n dX12_lay_29 rfl ?_
      refine sx_callVv lk_X12_564 cl_12 s_224 (by decide) dX12_lay_30 (vs := []) rfl rfl (Nat.le_of_ble_eq_true rfl) (Nat.le_of_ble_eq_true rfl) rfl (c_X12_fromEarnest _ Ih6.1) (fun h8 ph8 => ?_)
      obtain ⟨Kh8, c_h8⟩ := ph8
      have Ih8 := Ih6.tr Kh8 (prW_sub rfl rfl)
      have th8_224_71 := Kh8.2 224 71 rfl
      have th8_224_73 := Kh8.2 224 73 rfl
      have th8_224_74 := Kh8.2 224 74 rfl
      have th8_224_85 := Kh8.2 224 85 rfl
      have th8_224_100 := Kh8.2 224 100 rfl
      have th8_261_30 := Kh8.2 261 30 rfl
      have th8_261_31 := Kh8.2 261 31 rfl
      refine sx_aload_n dX12_lay_33 rfl ?_
      refine sx_iload_n dX12_lay_34 rfl ?_
      refine sx_callVv lk_X12_534 cl_12 s_224 (by decide) dX12_lay_35 (vs := [_]) rfl rfl (Nat.le_of_ble_eq_true rfl) (Nat.le_of_ble_eq_true rfl) rfl (c_X12_push _ Ih8.1 _ (by first | omega | (rw [Int.tmod_eq_emod_of_nonneg (by omega)]; omega) | (rw [Int.tdiv_eq_ediv_of_nonneg (by omega)]; omega))) (fun h10 ph10 => ?_)
      obtain ⟨Kh10, c_h10, v_h10⟩ := ph10
      have Ih10 := Ih8.tr Kh10 (prW_sub rfl rfl)
      have th10_224_68 := Kh10.2 224 68 rfl
      have th10_224_71 := Kh10.2 224 71 rfl
      have th10_224_73 := Kh10.2 224 73 rfl
      have th10_224_74 := Kh10.2 224 74 rfl
      have th10_224_85 := Kh10.2 224 85 rfl
      have th10_224_100 := Kh10.2 224 100 rfl
      have th10_261_30 := Kh10.2 261 30 rfl
      have th10_261_31 := Kh10.2 261 31 rfl
      refine sx_aload_n dX12_lay_38 rfl ?_
      refine sx_callVi lk_X12_567 cl_12 s_224 (by decide) dX12_lay_39 (vs := []) rfl rfl (Nat.le_of_ble_eq_true rfl) (Nat.le_of_ble_eq_true rfl) rfl (c_X12_toEarnest _ Ih10.1 (by omega)) (fun x13 h12 ph12 => ?_)
      have Kh12 := ph12
      have Ih12 := Ih10.tr Kh12 (prW_sub rfl rfl)
      have th12_224_67 := Kh12.2 224 67 rfl
      have th12_224_68 := Kh12.2 224 68 rfl
      have th12_224_71 := Kh12.2 224 71 rfl
      have th12_224_73 := Kh12.2 224 73 rfl
      have th12_224_74 := Kh12.2 224 74 rfl
      have th12_224_85 := Kh12.2 224 85 rfl
      have th12_224_100 := Kh12.2 224 100 rfl
      refine sx_ireturn dX12_lay_42 ?_
      exact ⟨_, rfl, ⟨Ih12, ⟨mC_mK Ih12 rfl rfl hJ hB.1, by have := hB.2; omega, by have := hB.2; omega, by have := hB.2; omega⟩, Ih12.2 224 100 rfl⟩⟩
    ·
      refine sx_iconst dX12_lay_23 ⟨by decide, by decide⟩ ?_
      refine sx_ireturn dX12_lay_24 ?_
      exact ⟨_, rfl, ⟨hI, ⟨mC_mK hI rfl rfl hJ hB.1, by have := hB.2; omega, by have := hB.2; omega, by have := hB.2; omega⟩, hI.2 224 100 rfl⟩⟩
set_option maxRecDepth 20000 in
set_option maxHeartbeats 4000000 in
theorem c_X12_run {G : sw_G} (d : Nat) {h0 : sw_H} (hJ : mI h0) (y1 : Int) (hB : mB h0)  : sw_E G NH SH (d + 3) mX12_run 0 [some (sw_r 224), some (sw_i y1)] [] h0 (sw_Qi (fun z h' => mK (prW [67, 68, 73, 74] [261, 262, 263, 267]) h0 h' ∧ (mB h') ∧ (h' 224 100 = h0 224 100))) := by
  have hI : mK (prW [67, 68, 73, 74] [261, 262, 263, 267]) h0 h0 := mK.refl hJ
  have hB2 := hB.2
  have r30 : (0 : Int) ≤ h0 261 30 ∧ h0 261 30 ≤ 24 := hI.1 261 30
  have r31 : (0 : Int) ≤ h0 261 31 ∧ h0 261 31 ≤ 6 := hI.1 261 31
  refine sx_iload_n dX12_run_0 rfl ?_
  refine sx_iconst dX12_run_1 ⟨by decide, by decide⟩ ?_
  refine sx_bipush dX12_run_2 ⟨by decide, by decide, by decide⟩ ?_
  refine sx_callSz lk_X12_500 dX12_run_4 (vs := [_, _, _]) rfl rfl (Nat.le_of_ble_eq_true rfl) (Nat.le_of_ble_eq_true rfl) rfl (c_X12_isIn _ hI.1 _ _ _) (fun x2 h1 zx2 ph1 => ?_)
  obtain ⟨rfl, p_x2⟩ := ph1
  refine sx_if_eq (tgt := 46) dX12_run_7 (by decide) (fun c3 => ?_) (fun c3 => ?_)
  ·
    replace p_x2 := mt p_x2.mpr (show ¬ (x2 = 1) by rw [c3]; decide)
    clear zx2
    refine sx_iconst dX12_run_46 ⟨by decide, by decide⟩ ?_
    refine sx_ireturn dX12_run_47 ?_
    exact ⟨_, rfl, ⟨hI, ⟨mC_mK hI rfl rfl hJ hB.1, by have := hB.2; omega, by have := hB.2; omega, by have := hB.2; omega⟩, hI.2 224 100 rfl⟩⟩
  ·
    have vx2 : x2 = 1 := by rcases zx2 with q | q; (exact absurd q c3); exact q
    replace p_x2 := p_x2.mp vx2
    clear zx2
    refine sx_aload_n dX12_run_10 rfl ?_
    refine sx_getS (k := 61) (t := 261) cl_12 fl_X12_124 dX12_run_11 s_224 (by decide) rfl (by decide) ?_
    refine sx_bipush dX12_run_14 ⟨by decide, by decide, by decide⟩ ?_
    refine sy_iaK (k := 30) (F := fun z => (0 : Int) ≤ z ∧ z ≤ 24) rfl dX12_run_16 s_261 (by decide) (by decide) ⟨by decide, by decide⟩ (hI.1 261 30) (fun r4 => ?_)
    refine sx_iload_n dX12_run_17 rfl ?_
    refine sx_callSi lk_X12_443 dX12_run_18 (vs := [_]) rfl rfl (Nat.le_of_ble_eq_true rfl) (Nat.le_of_ble_eq_true rfl) rfl (c_X12_taken _ hI.1 _) (fun x6 h5 ph5 => ?_)
    obtain ⟨rfl, p_x6⟩ := ph5
    have tk1 : 0 ≤ tk y1 ∧ tk y1 ≤ 3 := by unfold tk; omega
    refine sx_icmp_lt (tgt := 46) dX12_run_21 (by decide) (fun c7 => ?_) (fun c7 => ?_)
    ·
      refine sx_iconst dX12_run_46 ⟨by decide, by decide⟩ ?_
      refine sx_ireturn dX12_run_47 ?_
      exact ⟨_, rfl, ⟨hI, ⟨mC_mK hI rfl rfl hJ hB.1, by have := hB.2; omega, by have := hB.2; omega, by have := hB.2; omega⟩, hI.2 224 100 rfl⟩⟩
    ·
      refine sx_aload_n dX12_run_24 rfl ?_
      refine sx_getS (k := 61) (t := 261) cl_12 fl_X12_124 dX12_run_25 s_224 (by decide) rfl (by decide) ?_
      refine sx_bipush dX12_run_28 ⟨by decide, by decide, by decide⟩ ?_
      refine sy_iaK (k := 30) (F := fun z => (0 : Int) ≤ z ∧ z ≤ 24) rfl dX12_run_30 s_261 (by decide) (by decide) ⟨by decide, by decide⟩ (hI.1 261 30) (fun r8 => ?_)
      refine sx_iload_n dX12_run_31 rfl ?_
      refine sx_callSi lk_X12_443 dX12_run_32 (vs := [_]) rfl rfl (Nat.le_of_ble_eq_true rfl) (Nat.le_of_ble_eq_true rfl) rfl (c_X12_taken _ hI.1 _) (fun x10 h9 ph9 => ?_)
      obtain ⟨rfl, p_x10⟩ := ph9
      have tk2 : 0 ≤ tk y1 ∧ tk y1 ≤ 3 := by unfold tk; omega
      refine sx_isub dX12_run_35 ?_
      refine sy_topw (by omega) ?_
      refine sx_iload_n dX12_run_36 rfl ?_
      refine sx_callSi lk_X12_446 dX12_run_37 (vs := [_]) rfl rfl (Nat.le_of_ble_eq_true rfl) (Nat.le_of_ble_eq_true rfl) rfl (c_X12_laidBy _ hI.1 _) (fun x12 h11 ph11 => ?_)
      obtain ⟨rfl, p_x12⟩ := ph11
      have ld2 : 0 ≤ ld y1 ∧ ld y1 ≤ 3 := by unfold ld; omega
      refine sx_iadd dX12_run_40 ?_
      refine sy_topw (by omega) ?_
      refine sx_bipush dX12_run_41 ⟨by decide, by decide, by decide⟩ ?_
      refine sx_icmp_le (tgt := 48) dX12_run_43 (by decide) (fun c13 => ?_) (fun c13 => ?_)
      ·
        refine sx_iload_n dX12_run_48 rfl ?_
        refine sx_bipush dX12_run_49 ⟨by decide, by decide, by decide⟩ ?_
        refine sx_icmp_ne (tgt := 66) dX12_run_51 (by decide) (fun c14 => ?_) (fun c14 => ?_)
        ·
          refine sx_iload_n dX12_run_66 rfl ?_
          refine sx_bipush dX12_run_67 ⟨by decide, by decide, by decide⟩ ?_
          refine sx_icmp_ne (tgt := 84) dX12_run_69 (by decide) (fun c15 => ?_) (fun c15 => ?_)
          ·
            refine sx_aload_n dX12_run_84 rfl ?_
            refine sx_callVv lk_X12_561 cl_12 s_224 (by decide) dX12_run_85 (vs := []) rfl rfl (Nat.le_of_ble_eq_true rfl) (Nat.le_of_ble_eq_true rfl) rfl (c_X12_keepAct _ hI.1) (fun h16 ph16 => ?_)
            obtain ⟨Kh16, s_h16⟩ := ph16
            have Ih16 := hI.tr Kh16 (prW_sub rfl rfl)
            have th16_224_67 := Kh16.2 224 67 rfl
            have th16_224_68 := Kh16.2 224 68 rfl
            have th16_224_71 := Kh16.2 224 71 rfl
            have th16_224_85 := Kh16.2 224 85 rfl
            have th16_224_100 := Kh16.2 224 100 rfl
            have th16_261_30 := Kh16.2 261 30 rfl
            have th16_261_31 := Kh16.2 261 31 rfl
            refine sx_aload_n dX12_run_88 rfl ?_
            refine sx_callVv lk_X12_564 cl_12 s_224 (by decide) dX12_run_89 (vs := []) rfl rfl (Nat.le_of_ble_eq_true rfl) (Nat.le_of_ble_eq_true rfl) rfl (c_X12_fromEarnest _ Ih16.1) (fun h18 ph18 => ?_)
            obtain ⟨Kh18, c_h18⟩ := ph18
            have Ih18 := Ih16.tr Kh18 (prW_sub rfl rfl)
            have th18_224_71 := Kh18.2 224 71 rfl
            have th18_224_73 := Kh18.2 224 73 rfl
            have th18_224_74 := Kh18.2 224 74 rfl
            have th18_224_85 := Kh18.2 224 85 rfl
            have th18_224_100 := Kh18.2 224 100 rfl
            have th18_261_30 := Kh18.2 261 30 rfl
            have th18_261_31 := Kh18.2 261 31 rfl
            refine sx_aload_n dX12_run_92 rfl ?_
            refine sx_iload_n dX12_run_93 rfl ?_
            refine sx_callVv lk_X12_558 cl_12 s_224 (by decide) dX12_run_94 (vs := [_]) rfl rfl (Nat.le_of_ble_eq_true rfl) (Nat.le_of_ble_eq_true rfl) rfl (c_X12_doThing _ Ih18.1 _ (by omega) (by omega) (by omega)) (fun h20 ph20 => ?_)
            obtain ⟨Kh20, c_h20⟩ := ph20
            have Ih20 := Ih18.tr Kh20 (prW_sub rfl rfl)
            have th20_224_71 := Kh20.2 224 71 rfl
            have th20_224_73 := Kh20.2 224 73 rfl
            have th20_224_74 := Kh20.2 224 74 rfl
            have th20_224_85 := Kh20.2 224 85 rfl
            have th20_224_100 := Kh20.2 224 100 rfl
            have th20_261_30 := Kh20.2 261 30 rfl
            have th20_261_31 := Kh20.2 261 31 rfl
            have pu2 : pu y1 = if y1 = 7 then 1 else if y1 = 8 then -1 else 0 := rfl
            refine sx_aload_n dX12_run_97 rfl ?_
            refine sx_callVi lk_X12_567 cl_12 s_224 (by decide) dX12_run_98 (vs := []) rfl rfl (Nat.le_of_ble_eq_true rfl) (Nat.le_of_ble_eq_true rfl) rfl (c_X12_toEarnest _ Ih20.1 (by omega)) (fun x23 h22 ph22 => ?_)
            have Kh22 := ph22
            have Ih22 := Ih20.tr Kh22 (prW_sub rfl rfl)
            have th22_224_67 := Kh22.2 224 67 rfl
            have th22_224_68 := Kh22.2 224 68 rfl
            have th22_224_71 := Kh22.2 224 71 rfl
            have th22_224_73 := Kh22.2 224 73 rfl
            have th22_224_74 := Kh22.2 224 74 rfl
            have th22_224_85 := Kh22.2 224 85 rfl
            have th22_224_100 := Kh22.2 224 100 rfl
            refine sx_ireturn dX12_run_101 ?_
            exact ⟨_, rfl, ⟨Ih22, ⟨mC_mK Ih22 rfl rfl hJ hB.1, by have := hB.2; omega, by have := hB.2; omega, by have := hB.2; omega⟩, Ih22.2 224 100 rfl⟩⟩
          ·
            refine sx_aload_n dX12_run_72 rfl ?_
            refine sx_getS (k := 61) (t := 261) cl_12 fl_X12_124 dX12_run_73 s_224 (by decide) rfl (by decide) ?_
            refine sx_bipush dX12_run_76 ⟨by decide, by decide, by decide⟩ ?_
            refine sy_iaK (k := 31) (F := fun z => (0 : Int) ≤ z ∧ z ≤ 6) rfl dX12_run_78 s_261 (by decide) (by decide) ⟨by decide, by decide⟩ (hI.1 261 31) (fun r24 => ?_)
            refine sx_if_ne (tgt := 84) dX12_run_79 (by decide) (fun c25 => ?_) (fun c25 => ?_)
            ·
              refine sx_aload_n dX12_run_84 rfl ?_
              refine sx_callVv lk_X12_561 cl_12 s_224 (by decide) dX12_run_85 (vs := []) rfl rfl (Nat.le_of_ble_eq_true rfl) (Nat.le_of_ble_eq_true rfl) rfl (c_X12_keepAct _ hI.1) (fun h26 ph26 => ?_)
              obtain ⟨Kh26, s_h26⟩ := ph26
              have Ih26 := hI.tr Kh26 (prW_sub rfl rfl)
              have th26_224_67 := Kh26.2 224 67 rfl
              have th26_224_68 := Kh26.2 224 68 rfl
              have th26_224_71 := Kh26.2 224 71 rfl
              have th26_224_85 := Kh26.2 224 85 rfl
              have th26_224_100 := Kh26.2 224 100 rfl
              have th26_261_30 := Kh26.2 261 30 rfl
              have th26_261_31 := Kh26.2 261 31 rfl
              refine sx_aload_n dX12_run_88 rfl ?_
              refine sx_callVv lk_X12_564 cl_12 s_224 (by decide) dX12_run_89 (vs := []) rfl rfl (Nat.le_of_ble_eq_true rfl) (Nat.le_of_ble_eq_true rfl) rfl (c_X12_fromEarnest _ Ih26.1) (fun h28 ph28 => ?_)
              obtain ⟨Kh28, c_h28⟩ := ph28
              have Ih28 := Ih26.tr Kh28 (prW_sub rfl rfl)
              have th28_224_71 := Kh28.2 224 71 rfl
              have th28_224_73 := Kh28.2 224 73 rfl
              have th28_224_74 := Kh28.2 224 74 rfl
              have th28_224_85 := Kh28.2 224 85 rfl
              have th28_224_100 := Kh28.2 224 100 rfl
              have th28_261_30 := Kh28.2 261 30 rfl
              have th28_261_31 := Kh28.2 261 31 rfl
              refine sx_aload_n dX12_run_92 rfl ?_
              refine sx_iload_n dX12_run_93 rfl ?_
              refine sx_callVv lk_X12_558 cl_12 s_224 (by decide) dX12_run_94 (vs := [_]) rfl rfl (Nat.le_of_ble_eq_true rfl) (Nat.le_of_ble_eq_true rfl) rfl (c_X12_doThing _ Ih28.1 _ (by omega) (by omega) (by omega)) (fun h30 ph30 => ?_)
              obtain ⟨Kh30, c_h30⟩ := ph30
              have Ih30 := Ih28.tr Kh30 (prW_sub rfl rfl)
              have th30_224_71 := Kh30.2 224 71 rfl
              have th30_224_73 := Kh30.2 224 73 rfl
              have th30_224_74 := Kh30.2 224 74 rfl
              have th30_224_85 := Kh30.2 224 85 rfl
              have th30_224_100 := Kh30.2 224 100 rfl
              have th30_261_30 := Kh30.2 261 30 rfl
              have th30_261_31 := Kh30.2 261 31 rfl
              have pu2 : pu y1 = if y1 = 7 then 1 else if y1 = 8 then -1 else 0 := rfl
              refine sx_aload_n dX12_run_97 rfl ?_
              refine sx_callVi lk_X12_567 cl_12 s_224 (by decide) dX12_run_98 (vs := []) rfl rfl (Nat.le_of_ble_eq_true rfl) (Nat.le_of_ble_eq_true rfl) rfl (c_X12_toEarnest _ Ih30.1 (by omega)) (fun x33 h32 ph32 => ?_)
              have Kh32 := ph32
              have Ih32 := Ih30.tr Kh32 (prW_sub rfl rfl)
              have th32_224_67 := Kh32.2 224 67 rfl
              have th32_224_68 := Kh32.2 224 68 rfl
              have th32_224_71 := Kh32.2 224 71 rfl
              have th32_224_73 := Kh32.2 224 73 rfl
              have th32_224_74 := Kh32.2 224 74 rfl
              have th32_224_85 := Kh32.2 224 85 rfl
              have th32_224_100 := Kh32.2 224 100 rfl
              refine sx_ireturn dX12_run_101 ?_
              exact ⟨_, rfl, ⟨Ih32, ⟨mC_mK Ih32 rfl rfl hJ hB.1, by have := hB.2; omega, by have := hB.2; omega, by have := hB.2; omega⟩, Ih32.2 224 100 rfl⟩⟩
            ·
              refine sx_iconst dX12_run_82 ⟨by decide, by decide⟩ ?_
              refine sx_ireturn dX12_run_83 ?_
              exact ⟨_, rfl, ⟨hI, ⟨mC_mK hI rfl rfl hJ hB.1, by have := hB.2; omega, by have := hB.2; omega, by have := hB.2; omega⟩, hI.2 224 100 rfl⟩⟩
        ·
          refine sx_aload_n dX12_run_54 rfl ?_
          refine sx_getS (k := 61) (t := 261) cl_12 fl_X12_124 dX12_run_55 s_224 (by decide) rfl (by decide) ?_
          refine sx_bipush dX12_run_58 ⟨by decide, by decide, by decide⟩ ?_
          refine sy_iaK (k := 31) (F := fun z => (0 : Int) ≤ z ∧ z ≤ 6) rfl dX12_run_60 s_261 (by decide) (by decide) ⟨by decide, by decide⟩ (hI.1 261 31) (fun r34 => ?_)
          refine sx_bipush dX12_run_61 ⟨by decide, by decide, by decide⟩ ?_
          refine sx_icmp_eq (tgt := 82) dX12_run_63 (by decide) (fun c35 => ?_) (fun c35 => ?_)
          ·
            refine sx_iconst dX12_run_82 ⟨by decide, by decide⟩ ?_
            refine sx_ireturn dX12_run_83 ?_
            exact ⟨_, rfl, ⟨hI, ⟨mC_mK hI rfl rfl hJ hB.1, by have := hB.2; omega, by have := hB.2; omega, by have := hB.2; omega⟩, hI.2 224 100 rfl⟩⟩
          ·
            refine sx_iload_n dX12_run_66 rfl ?_
            refine sx_bipush dX12_run_67 ⟨by decide, by decide, by decide⟩ ?_
            refine sx_icmp_ne (tgt := 84) dX12_run_69 (by decide) (fun c36 => ?_) (fun c36 => ?_)
            ·
              refine sx_aload_n dX12_run_84 rfl ?_
              refine sx_callVv lk_X12_561 cl_12 s_224 (by decide) dX12_run_85 (vs := []) rfl rfl (Nat.le_of_ble_eq_true rfl) (Nat.le_of_ble_eq_true rfl) rfl (c_X12_keepAct _ hI.1) (fun h37 ph37 => ?_)
              obtain ⟨Kh37, s_h37⟩ := ph37
              have Ih37 := hI.tr Kh37 (prW_sub rfl rfl)
              have th37_224_67 := Kh37.2 224 67 rfl
              have th37_224_68 := Kh37.2 224 68 rfl
              have th37_224_71 := Kh37.2 224 71 rfl
              have th37_224_85 := Kh37.2 224 85 rfl
              have th37_224_100 := Kh37.2 224 100 rfl
              have th37_261_30 := Kh37.2 261 30 rfl
              have th37_261_31 := Kh37.2 261 31 rfl
              refine sx_aload_n dX12_run_88 rfl ?_
              refine sx_callVv lk_X12_564 cl_12 s_224 (by decide) dX12_run_89 (vs := []) rfl rfl (Nat.le_of_ble_eq_true rfl) (Nat.le_of_ble_eq_true rfl) rfl (c_X12_fromEarnest _ Ih37.1) (fun h39 ph39 => ?_)
              obtain ⟨Kh39, c_h39⟩ := ph39
              have Ih39 := Ih37.tr Kh39 (prW_sub rfl rfl)
              have th39_224_71 := Kh39.2 224 71 rfl
              have th39_224_73 := Kh39.2 224 73 rfl
              have th39_224_74 := Kh39.2 224 74 rfl
              have th39_224_85 := Kh39.2 224 85 rfl
              have th39_224_100 := Kh39.2 224 100 rfl
              have th39_261_30 := Kh39.2 261 30 rfl
              have th39_261_31 := Kh39.2 261 31 rfl
              refine sx_aload_n dX12_run_92 rfl ?_
              refine sx_iload_n dX12_run_93 rfl ?_
              refine sx_callVv lk_X12_558 cl_12 s_224 (by decide) dX12_run_94 (vs := [_]) rfl rfl (Nat.le_of_ble_eq_true rfl) (Nat.le_of_ble_eq_true rfl) rfl (c_X12_doThing _ Ih39.1 _ (by omega) (by omega) (by omega)) (fun h41 ph41 => ?_)
              obtain ⟨Kh41, c_h41⟩ := ph41
              have Ih41 := Ih39.tr Kh41 (prW_sub rfl rfl)
              have th41_224_71 := Kh41.2 224 71 rfl
              have th41_224_73 := Kh41.2 224 73 rfl
              have th41_224_74 := Kh41.2 224 74 rfl
              have th41_224_85 := Kh41.2 224 85 rfl
              have th41_224_100 := Kh41.2 224 100 rfl
              have th41_261_30 := Kh41.2 261 30 rfl
              have th41_261_31 := Kh41.2 261 31 rfl
              have pu2 : pu y1 = if y1 = 7 then 1 else if y1 = 8 then -1 else 0 := rfl
              refine sx_aload_n dX12_run_97 rfl ?_
              refine sx_callVi lk_X12_567 cl_12 s_224 (by decide) dX12_run_98 (vs := []) rfl rfl (Nat.le_of_ble_eq_true rfl) (Nat.le_of_ble_eq_true rfl) rfl (c_X12_toEarnest _ Ih41.1 (by omega)) (fun x44 h43 ph43 => ?_)
              have Kh43 := ph43
              have Ih43 := Ih41.tr Kh43 (prW_sub rfl rfl)
              have th43_224_67 := Kh43.2 224 67 rfl
              have th43_224_68 := Kh43.2 224 68 rfl
              have th43_224_71 := Kh43.2 224 71 rfl
              have th43_224_73 := Kh43.2 224 73 rfl
              have th43_224_74 := Kh43.2 224 74 rfl
              have th43_224_85 := Kh43.2 224 85 rfl
              have th43_224_100 := Kh43.2 224 100 rfl
              refine sx_ireturn dX12_run_101 ?_
              exact ⟨_, rfl, ⟨Ih43, ⟨mC_mK Ih43 rfl rfl hJ hB.1, by have := hB.2; omega, by have := hB.2; omega, by have := hB.2; omega⟩, Ih43.2 224 100 rfl⟩⟩
            ·
              refine sx_aload_n dX12_run_72 rfl ?_
              refine sx_getS (k := 61) (t := 261) cl_12 fl_X12_124 dX12_run_73 s_224 (by decide) rfl (by decide) ?_
              refine sx_bipush dX12_run_76 ⟨by decide, by decide, by decide⟩ ?_
              refine sy_iaK (k := 31) (F := fun z => (0 : Int) ≤ z ∧ z ≤ 6) rfl dX12_run_78 s_261 (by decide) (by decide) ⟨by decide, by decide⟩ (hI.1 261 31) (fun r45 => ?_)
              refine sx_if_ne (tgt := 84) dX12_run_79 (by decide) (fun c46 => ?_) (fun c46 => ?_)
              ·
                refine sx_aload_n dX12_run_84 rfl ?_
                refine sx_callVv lk_X12_561 cl_12 s_224 (by decide) dX12_run_85 (vs := []) rfl rfl (Nat.le_of_ble_eq_true rfl) (Nat.le_of_ble_eq_true rfl) rfl (c_X12_keepAct _ hI.1) (fun h47 ph47 => ?_)
                obtain ⟨Kh47, s_h47⟩ := ph47
                have Ih47 := hI.tr Kh47 (prW_sub rfl rfl)
                have th47_224_67 := Kh47.2 224 67 rfl
                have th47_224_68 := Kh47.2 224 68 rfl
                have th47_224_71 := Kh47.2 224 71 rfl
                have th47_224_85 := Kh47.2 224 85 rfl
                have th47_224_100 := Kh47.2 224 100 rfl
                have th47_261_30 := Kh47.2 261 30 rfl
                have th47_261_31 := Kh47.2 261 31 rfl
                refine sx_aload_n dX12_run_88 rfl ?_
                refine sx_callVv lk_X12_564 cl_12 s_224 (by decide) dX12_run_89 (vs := []) rfl rfl (Nat.le_of_ble_eq_true rfl) (Nat.le_of_ble_eq_true rfl) rfl (c_X12_fromEarnest _ Ih47.1) (fun h49 ph49 => ?_)
                obtain ⟨Kh49, c_h49⟩ := ph49
                have Ih49 := Ih47.tr Kh49 (prW_sub rfl rfl)
                have th49_224_71 := Kh49.2 224 71 rfl
                have th49_224_73 := Kh49.2 224 73 rfl
                have th49_224_74 := Kh49.2 224 74 rfl
                have th49_224_85 := Kh49.2 224 85 rfl
                have th49_224_100 := Kh49.2 224 100 rfl
                have th49_261_30 := Kh49.2 261 30 rfl
                have th49_261_31 := Kh49.2 261 31 rfl
                refine sx_aload_n dX12_run_92 rfl ?_
                refine sx_iload_n dX12_run_93 rfl ?_
                refine sx_callVv lk_X12_558 cl_12 s_224 (by decide) dX12_run_94 (vs := [_]) rfl rfl (Nat.le_of_ble_eq_true rfl) (Nat.le_of_ble_eq_true rfl) rfl (c_X12_doThing _ Ih49.1 _ (by omega) (by omega) (by omega)) (fun h51 ph51 => ?_)
                obtain ⟨Kh51, c_h51⟩ := ph51
                have Ih51 := Ih49.tr Kh51 (prW_sub rfl rfl)
                have th51_224_71 := Kh51.2 224 71 rfl
                have th51_224_73 := Kh51.2 224 73 rfl
                have th51_224_74 := Kh51.2 224 74 rfl
                have th51_224_85 := Kh51.2 224 85 rfl
                have th51_224_100 := Kh51.2 224 100 rfl
                have th51_261_30 := Kh51.2 261 30 rfl
                have th51_261_31 := Kh51.2 261 31 rfl
                have pu2 : pu y1 = if y1 = 7 then 1 else if y1 = 8 then -1 else 0 := rfl
                refine sx_aload_n dX12_run_97 rfl ?_
                refine sx_callVi lk_X12_567 cl_12 s_224 (by decide) dX12_run_98 (vs := []) rfl rfl (Nat.le_of_ble_eq_true rfl) (Nat.le_of_ble_eq_true rfl) rfl (c_X12_toEarnest _ Ih51.1 (by omega)) (fun x54 h53 ph53 => ?_)
                have Kh53 := ph53
                have Ih53 := Ih51.tr Kh53 (prW_sub rfl rfl)
                have th53_224_67 := Kh53.2 224 67 rfl
                have th53_224_68 := Kh53.2 224 68 rfl
                have th53_224_71 := Kh53.2 224 71 rfl
                have th53_224_73 := Kh53.2 224 73 rfl
                have th53_224_74 := Kh53.2 224 74 rfl
                have th53_224_85 := Kh53.2 224 85 rfl
                have th53_224_100 := Kh53.2 224 100 rfl
                refine sx_ireturn dX12_run_101 ?_
                exact ⟨_, rfl, ⟨Ih53, ⟨mC_mK Ih53 rfl rfl hJ hB.1, by have := hB.2; omega, by have := hB.2; omega, by have := hB.2; omega⟩, Ih53.2 224 100 rfl⟩⟩
              ·
                refine sx_iconst dX12_run_82 ⟨by decide, by decide⟩ ?_
                refine sx_ireturn dX12_run_83 ?_
                exact ⟨_, rfl, ⟨hI, ⟨mC_mK hI rfl rfl hJ hB.1, by have := hB.2; omega, by have := hB.2; omega, by have := hB.2; omega⟩, hI.2 224 100 rfl⟩⟩
      ·
        refine sx_iconst dX12_run_46 ⟨by decide, by decide⟩ ?_
        refine sx_ireturn dX12_run_47 ?_
        exact ⟨_, rfl, ⟨hI, ⟨mC_mK hI rfl rfl hJ hB.1, by have := hB.2; omega, by have := hB.2; omega, by have := hB.2; omega⟩, hI.2 224 100 rfl⟩⟩
set_option maxRecDepth 20000 in
set_option maxHeartbeats 4000000 in
theorem c_X12_call {G : sw_G} (d : Nat) {h0 : sw_H} (hJ : mI h0) (y1 : Int) (hB : mB h0)  : sw_E G NH SH (d + 5) mX12_call 0 [some (sw_r 224), some (sw_i y1)] [] h0 (sw_Qi (fun z h' => mK (prW [67, 68, 69, 70, 73, 74] [261, 262, 263, 264, 265, 266, 267]) h0 h' ∧ (mB h') ∧ (h' 224 100 = h0 224 100))) := by
  have hI : mK (prW [67, 68, 69, 70, 73, 74] [261, 262, 263, 264, 265, 266, 267]) h0 h0 := mK.refl hJ
  have hB2 := hB.2
  have r30 : (0 : Int) ≤ h0 261 30 ∧ h0 261 30 ≤ 24 := hI.1 261 30
  have r31 : (0 : Int) ≤ h0 261 31 ∧ h0 261 31 ≤ 6 := hI.1 261 31
  refine sx_aload_n dX12_call_0 rfl ?_
  refine sx_iload_n dX12_call_1 rfl ?_
  refine sx_callVz lk_X12_570 cl_12 s_224 (by decide) dX12_call_2 (vs := [_]) rfl rfl (Nat.le_of_ble_eq_true rfl) (Nat.le_of_ble_eq_true rfl) rfl (c_X12_isOne _ hI.1 _) (fun x2 h1 zx2 ph1 => ?_)
  obtain ⟨rfl, p_x2⟩ := ph1
  refine sx_if_eq (tgt := 50) dX12_call_5 (by decide) (fun c3 => ?_) (fun c3 => ?_)
  ·
    replace p_x2 := mt p_x2.mpr (show ¬ (x2 = 1) by rw [c3]; decide)
    clear zx2
    refine sx_iconst dX12_call_50 ⟨by decide, by decide⟩ ?_
    refine sx_ireturn dX12_call_51 ?_
    exact ⟨_, rfl, ⟨hI, ⟨mC_mK hI rfl rfl hJ hB.1, by have := hB.2; omega, by have := hB.2; omega, by have := hB.2; omega⟩, hI.2 224 100 rfl⟩⟩
  ·
    have vx2 : x2 = 1 := by rcases zx2 with q | q; (exact absurd q c3); exact q
    replace p_x2 := p_x2.mp vx2
    clear zx2
    obtain ⟨wr1, wr2, wr3, wr4⟩ := mC_w hB.1 hJ (w := y1) (by omega) (by omega)
    have wd := Wd_of hB.1 hJ hB.2.1 (w := y1) (by omega) (by omega)
    have wds := Wds_of hB.1 hJ hB.2.1 (w := y1) (by omega)
    obtain ⟨wg1, wg2, wg3, wg4, wg5, wg6⟩ := Wd_rng wd
    have eN : cN h0 y1 = h0 235 (6 * h0 224 36 + y1).toNat := rfl
    have eH : cH h0 y1 = h0 237 (6 * h0 224 36 + y1).toNat := rfl
    refine sx_aload_n dX12_call_8 rfl ?_
    refine sx_getS (k := 61) (t := 261) cl_12 fl_X12_124 dX12_call_9 s_224 (by decide) rfl (by decide) ?_
    refine sx_bipush dX12_call_12 ⟨by decide, by decide, by decide⟩ ?_
    refine sy_iaK (k := 30) (F := fun z => (0 : Int) ≤ z ∧ z ≤ 24) rfl dX12_call_14 s_261 (by decide) (by decide) ⟨by decide, by decide⟩ (hI.1 261 30) (fun r4 => ?_)
    refine sx_aload_n dX12_call_15 rfl ?_
    refine sx_iload_n dX12_call_16 rfl ?_
    refine sx_callVi lk_X12_504 cl_12 s_224 (by decide) dX12_call_17 (vs := [_]) rfl rfl (Nat.le_of_ble_eq_true rfl) (Nat.le_of_ble_eq_true rfl) rfl (c_X12_needsOf _ hI.1 _ (by first | omega | (rw [Int.tmod_eq_emod_of_nonneg (by omega)]; omega) | (rw [Int.tdiv_eq_ediv_of_nonneg (by omega)]; omega))) (fun x6 h5 ph5 => ?_)
    obtain ⟨rfl, p_x6⟩ := ph5
    refine sx_icmp_lt (tgt := 50) dX12_call_20 (by decide) (fun c7 => ?_) (fun c7 => ?_)
    ·
      refine sx_iconst dX12_call_50 ⟨by decide, by decide⟩ ?_
      refine sx_ireturn dX12_call_51 ?_
      exact ⟨_, rfl, ⟨hI, ⟨mC_mK hI rfl rfl hJ hB.1, by have := hB.2; omega, by have := hB.2; omega, by have := hB.2; omega⟩, hI.2 224 100 rfl⟩⟩
    ·
      refine sx_aload_n dX12_call_23 rfl ?_
      refine sx_getS (k := 61) (t := 261) cl_12 fl_X12_124 dX12_call_24 s_224 (by decide) rfl (by decide) ?_
      refine sx_bipush dX12_call_27 ⟨by decide, by decide, by decide⟩ ?_
      refine sy_iaK (k := 30) (F := fun z => (0 : Int) ≤ z ∧ z ≤ 24) rfl dX12_call_29 s_261 (by decide) (by decide) ⟨by decide, by decide⟩ (hI.1 261 30) (fun r8 => ?_)
      refine sx_aload_n dX12_call_30 rfl ?_
      refine sx_getS (k := 21) (t := 237) cl_12 fl_X12_51 dX12_call_31 s_224 (by decide) rfl (by decide) ?_
      refine sx_bipush dX12_call_34 ⟨by decide, by decide, by decide⟩ ?_
      refine sx_aload_n dX12_call_36 rfl ?_
      refine sx_getI (k := 36) cl_12 fl_X12_349 dX12_call_37 s_224 (by decide) rfl (by decide) ?_
      have r9 : (0 : Int) ≤ h0 224 36 ∧ h0 224 36 ≤ 1 := hI.1 224 36
      refine sx_imul dX12_call_40 ?_
      refine sy_topw (by omega) ?_
      refine sx_iload_n dX12_call_41 rfl ?_
      refine sx_iadd dX12_call_42 ?_
      refine sy_topw (by omega) ?_
      refine sx_iaload dX12_call_43 s_237 (by decide) (by decide) ⟨by omega, by omega⟩ ?_
      refine sx_iadd dX12_call_44 ?_
      refine sy_topw (by omega) ?_
      refine sx_bipush dX12_call_45 ⟨by decide, by decide, by decide⟩ ?_
      refine sx_icmp_le (tgt := 52) dX12_call_47 (by decide) (fun c10 => ?_) (fun c10 => ?_)
      ·
        refine sx_aload_n dX12_call_52 rfl ?_
        refine sx_callVv lk_X12_561 cl_12 s_224 (by decide) dX12_call_53 (vs := []) rfl rfl (Nat.le_of_ble_eq_true rfl) (Nat.le_of_ble_eq_true rfl) rfl (c_X12_keepAct _ hI.1) (fun h11 ph11 => ?_)
        obtain ⟨Kh11, s_h11⟩ := ph11
        have Ih11 := hI.tr Kh11 (prW_sub rfl rfl)
        have th11_224_67 := Kh11.2 224 67 rfl
        have th11_224_68 := Kh11.2 224 68 rfl
        have th11_224_71 := Kh11.2 224 71 rfl
        have th11_224_85 := Kh11.2 224 85 rfl
        have th11_224_100 := Kh11.2 224 100 rfl
        have th11_261_30 := Kh11.2 261 30 rfl
        have th11_261_31 := Kh11.2 261 31 rfl
        refine sx_aload_n dX12_call_56 rfl ?_
        refine sx_callVv lk_X12_564 cl_12 s_224 (by decide) dX12_call_57 (vs := []) rfl rfl (Nat.le_of_ble_eq_true rfl) (Nat.le_of_ble_eq_true rfl) rfl (c_X12_fromEarnest _ Ih11.1) (fun h13 ph13 => ?_)
        obtain ⟨Kh13, c_h13⟩ := ph13
        have Ih13 := Ih11.tr Kh13 (prW_sub rfl rfl)
        have th13_224_71 := Kh13.2 224 71 rfl
        have th13_224_73 := Kh13.2 224 73 rfl
        have th13_224_74 := Kh13.2 224 74 rfl
        have th13_224_85 := Kh13.2 224 85 rfl
        have th13_224_100 := Kh13.2 224 100 rfl
        have th13_261_30 := Kh13.2 261 30 rfl
        have th13_261_31 := Kh13.2 261 31 rfl
        have CD : cdK h0 h13 := Ih13.cd rfl rfl
        refine sx_aload_n dX12_call_60 rfl ?_
        refine sx_iload_n dX12_call_61 rfl ?_
        refine sx_callVv lk_X12_573 cl_12 s_224 (by decide) dX12_call_62 (vs := [_]) rfl rfl (Nat.le_of_ble_eq_true rfl) (Nat.le_of_ble_eq_true rfl) rfl (c_X12_runWord _ Ih13.1 (cN h0 y1) (cL h0 y1) (cH h0 y1) _ (by omega) (Wds_cd CD wds) (Wd_cd CD wd) (by omega)) (fun h15 ph15 => ?_)
        obtain ⟨Kh15, c_h15⟩ := ph15
        have Ih15 := Ih13.tr Kh15 (prW_sub rfl rfl)
        have th15_224_71 := Kh15.2 224 71 rfl
        have th15_224_73 := Kh15.2 224 73 rfl
        have th15_224_74 := Kh15.2 224 74 rfl
        have th15_224_85 := Kh15.2 224 85 rfl
        have th15_224_100 := Kh15.2 224 100 rfl
        have th15_261_30 := Kh15.2 261 30 rfl
        have th15_261_31 := Kh15.2 261 31 rfl
        refine sx_aload_n dX12_call_65 rfl ?_
        refine sx_callVi lk_X12_567 cl_12 s_224 (by decide) dX12_call_66 (vs := []) rfl rfl (Nat.le_of_ble_eq_true rfl) (Nat.le_of_ble_eq_true rfl) rfl (c_X12_toEarnest _ Ih15.1 (by omega)) (fun x18 h17 ph17 => ?_)
        have Kh17 := ph17
        have Ih17 := Ih15.tr Kh17 (prW_sub rfl rfl)
        have th17_224_67 := Kh17.2 224 67 rfl
        have th17_224_68 := Kh17.2 224 68 rfl
        have th17_224_71 := Kh17.2 224 71 rfl
        have th17_224_73 := Kh17.2 224 73 rfl
        have th17_224_74 := Kh17.2 224 74 rfl
        have th17_224_85 := Kh17.2 224 85 rfl
        have th17_224_100 := Kh17.2 224 100 rfl
        refine sx_ireturn dX12_call_69 ?_
        exact ⟨_, rfl, ⟨Ih17, ⟨mC_mK Ih17 rfl rfl hJ hB.1, by have := hB.2; omega, by have := hB.2; omega, by have := hB.2; omega⟩, Ih17.2 224 100 rfl⟩⟩
      ·
        refine sx_iconst dX12_call_50 ⟨by decide, by decide⟩ ?_
        refine sx_ireturn dX12_call_51 ?_
        exact ⟨_, rfl, ⟨hI, ⟨mC_mK hI rfl rfl hJ hB.1, by have := hB.2; omega, by have := hB.2; omega, by have := hB.2; omega⟩, hI.2 224 100 rfl⟩⟩
set_option maxRecDepth 20000 in
set_option maxHeartbeats 4000000 in
theorem c_X12_clear {G : sw_G} (d : Nat) {h0 : sw_H} (hJ : mI h0) (hB : mB h0)  : sw_E G NH SH (d + 1) mX12_clear 0 [some (sw_r 224), none, none] [] h0 (sw_Qi (fun z h' => mK (prW [67, 68, 73, 74] [261, 262, 263, 267]) h0 h' ∧ (mB h') ∧ (h' 224 100 = h0 224 100))) := by
  have hI : mK (prW [67, 68, 73, 74] [261, 262, 263, 267]) h0 h0 := mK.refl hJ
  have hB2 := hB.2
  have r30 : (0 : Int) ≤ h0 261 30 ∧ h0 261 30 ≤ 24 := hI.1 261 30
  have r31 : (0 : Int) ≤ h0 261 31 ∧ h0 261 31 ≤ 6 := hI.1 261 31
  refine sx_aload_n dX12_clear_0 rfl ?_
  refine sx_getS (k := 61) (t := 261) cl_12 fl_X12_124 dX12_clear_1 s_224 (by decide) rfl (by decide) ?_
  refine sx_bipush dX12_clear_4 ⟨by decide, by decide, by decide⟩ ?_
  refine sy_iaK (k := 30) (F := fun z => (0 : Int) ≤ z ∧ z ≤ 24) rfl dX12_clear_6 s_261 (by decide) (by decide) ⟨by decide, by decide⟩ (hI.1 261 30) (fun r1 => ?_)
  refine sx_aload_n dX12_clear_7 rfl ?_
  refine sx_getS (k := 61) (t := 261) cl_12 fl_X12_124 dX12_clear_8 s_224 (by decide) rfl (by decide) ?_
  refine sx_bipush dX12_clear_11 ⟨by decide, by decide, by decide⟩ ?_
  refine sy_iaK (k := 31) (F := fun z => (0 : Int) ≤ z ∧ z ≤ 6) rfl dX12_clear_13 s_261 (by decide) (by decide) ⟨by decide, by decide⟩ (hI.1 261 31) (fun r2 => ?_)
  refine sx_iadd dX12_clear_14 ?_
  refine sy_topw (by omega) ?_
  refine sy_top (fun v3 ev3 => ?_)
  refine sx_istore_n dX12_clear_15 (by decide) ?_
  refine sx_iload_n dX12_clear_16 rfl ?_
  refine sx_if_ne (tgt := 22) dX12_clear_17 (by decide) (fun c4 => ?_) (fun c4 => ?_)
  ·
    refine sx_aload_n dX12_clear_22 rfl ?_
    refine sx_callVv lk_X12_561 cl_12 s_224 (by decide) dX12_clear_23 (vs := []) rfl rfl (Nat.le_of_ble_eq_true rfl) (Nat.le_of_ble_eq_true rfl) rfl (c_X12_keepAct _ hI.1) (fun h5 ph5 => ?_)
    obtain ⟨Kh5, s_h5⟩ := ph5
    have Ih5 := hI.tr Kh5 (prW_sub rfl rfl)
    have th5_224_67 := Kh5.2 224 67 rfl
    have th5_224_68 := Kh5.2 224 68 rfl
    have th5_224_71 := Kh5.2 224 71 rfl
    have th5_224_85 := Kh5.2 224 85 rfl
    have th5_224_100 := Kh5.2 224 100 rfl
    have th5_261_30 := Kh5.2 261 30 rfl
    have th5_261_31 := Kh5.2 261 31 rfl
    refine sx_aload_n dX12_clear_26 rfl ?_
    refine sx_iconst dX12_clear_27 ⟨by decide, by decide⟩ ?_
    refine sy_putI (k := 67) cl_12 fl_X12_522 dX12_clear_28 s_224 (by decide) rfl (by decide) rfl rfl (fun h7 eh7 => ?_)
    have Ih7 := Ih5.up eh7 trivial rfl
    have th7_224_67 := eh7.1
    have th7_224_68 := eh7.2 (224) 68 (by decide)
    have th7_224_71 := eh7.2 (224) 71 (by decide)
    have th7_224_73 := eh7.2 (224) 73 (by decide)
    have th7_224_74 := eh7.2 (224) 74 (by decide)
    have th7_224_85 := eh7.2 (224) 85 (by decide)
    have th7_224_100 := eh7.2 (224) 100 (by decide)
    have th7_261_30 := eh7.2 (261) 30 (fun q => absurd q.1 (by decide))
    have th7_261_31 := eh7.2 (261) 31 (fun q => absurd q.1 (by decide))
    refine sx_aload_n dX12_clear_31 rfl ?_
    refine sx_iconst dX12_clear_32 ⟨by decide, by decide⟩ ?_
    refine sy_putI (k := 68) cl_12 fl_X12_528 dX12_clear_33 s_224 (by decide) rfl (by decide) rfl rfl (fun h8 eh8 => ?_)
    have Ih8 := Ih7.up eh8 trivial rfl
    have th8_224_67 := eh8.2 (224) 67 (by decide)
    have th8_224_68 := eh8.1
    have th8_224_71 := eh8.2 (224) 71 (by decide)
    have th8_224_73 := eh8.2 (224) 73 (by decide)
    have th8_224_74 := eh8.2 (224) 74 (by decide)
    have th8_224_85 := eh8.2 (224) 85 (by decide)
    have th8_224_100 := eh8.2 (224) 100 (by decide)
    have th8_261_30 := eh8.2 (261) 30 (fun q => absurd q.1 (by decide))
    have th8_261_31 := eh8.2 (261) 31 (fun q => absurd q.1 (by decide))
    refine sx_aload_n dX12_clear_36 rfl ?_
    refine sx_callVi lk_X12_567 cl_12 s_224 (by decide) dX12_clear_37 (vs := []) rfl rfl (Nat.le_of_ble_eq_true rfl) (Nat.le_of_ble_eq_true rfl) rfl (c_X12_toEarnest _ Ih8.1 (by omega)) (fun x10 h9 ph9 => ?_)
    have Kh9 := ph9
    have Ih9 := Ih8.tr Kh9 (prW_sub rfl rfl)
    have th9_224_67 := Kh9.2 224 67 rfl
    have th9_224_68 := Kh9.2 224 68 rfl
    have th9_224_71 := Kh9.2 224 71 rfl
    have th9_224_73 := Kh9.2 224 73 rfl
    have th9_224_74 := Kh9.2 224 74 rfl
    have th9_224_85 := Kh9.2 224 85 rfl
    have th9_224_100 := Kh9.2 224 100 rfl
    refine sx_istore_n dX12_clear_40 (by decide) ?_
    refine sx_iload_n dX12_clear_41 rfl ?_
    refine sx_ireturn dX12_clear_42 ?_
    exact ⟨_, rfl, ⟨Ih9, ⟨mC_mK Ih9 rfl rfl hJ hB.1, by have := hB.2; omega, by have := hB.2; omega, by have := hB.2; omega⟩, Ih9.2 224 100 rfl⟩⟩
  ·
    refine sx_iconst dX12_clear_20 ⟨by decide, by decide⟩ ?_
    refine sx_ireturn dX12_clear_21 ?_
    exact ⟨_, rfl, ⟨hI, ⟨mC_mK hI rfl rfl hJ hB.1, by have := hB.2; omega, by have := hB.2; omega, by have := hB.2; omega⟩, hI.2 224 100 rfl⟩⟩
set_option maxRecDepth 20000 in
set_option maxHeartbeats 4000000 in
theorem c_X12_inline {G : sw_G} (d : Nat) {h0 : sw_H} (hJ : mI h0) (y1 : Int) (hB : mB h0)  : sw_E G NH SH (d + 2) mX12_inline 0 [some (sw_r 224), some (sw_i y1)] [] h0 (sw_Qi (fun z h' => mK (prW [67, 68, 73, 74] [261, 262, 263, 267]) h0 h' ∧ (mB h') ∧ (h' 224 100 = h0 224 100))) := by
  have hI : mK (prW [67, 68, 73, 74] [261, 262, 263, 267]) h0 h0 := mK.refl hJ
  have hB2 := hB.2
  have r30 : (0 : Int) ≤ h0 261 30 ∧ h0 261 30 ≤ 24 := hI.1 261 30
  have r31 : (0 : Int) ≤ h0 261 31 ∧ h0 261 31 ≤ 6 := hI.1 261 31
  refine sx_aload_n dX12_inline_0 rfl ?_
  refine sx_iload_n dX12_inline_1 rfl ?_
  refine sx_callVz lk_X12_570 cl_12 s_224 (by decide) dX12_inline_2 (vs := [_]) rfl rfl (Nat.le_of_ble_eq_true rfl) (Nat.le_of_ble_eq_true rfl) rfl (c_X12_isOne _ hI.1 _) (fun x2 h1 zx2 ph1 => ?_)
  obtain ⟨rfl, p_x2⟩ := ph1
  refine sx_if_ne (tgt := 10) dX12_inline_5 (by decide) (fun c3 => ?_) (fun c3 => ?_)
  ·
    have vx2 : x2 = 1 := by rcases zx2 with q | q; (exact absurd q c3); exact q
    replace p_x2 := p_x2.mp vx2
    clear zx2
    refine sx_aload_n dX12_inline_10 rfl ?_
    refine sx_callVv lk_X12_561 cl_12 s_224 (by decide) dX12_inline_11 (vs := []) rfl rfl (Nat.le_of_ble_eq_true rfl) (Nat.le_of_ble_eq_true rfl) rfl (c_X12_keepAct _ hI.1) (fun h4 ph4 => ?_)
    obtain ⟨Kh4, s_h4⟩ := ph4
    have Ih4 := hI.tr Kh4 (prW_sub rfl rfl)
    have th4_224_67 := Kh4.2 224 67 rfl
    have th4_224_68 := Kh4.2 224 68 rfl
    have th4_224_71 := Kh4.2 224 71 rfl
    have th4_224_85 := Kh4.2 224 85 rfl
    have th4_224_100 := Kh4.2 224 100 rfl
    have th4_261_30 := Kh4.2 261 30 rfl
    have th4_261_31 := Kh4.2 261 31 rfl
    refine sx_aload_n dX12_inline_14 rfl ?_
    refine sx_getS (k := 61) (t := 261) cl_12 fl_X12_124 dX12_inline_15 s_224 (by decide) rfl (by decide) ?_
    refine sx_bipush dX12_inline_18 ⟨by decide, by decide, by decide⟩ ?_
    refine sx_dup2 dX12_inline_20 ?_
    refine sx_iaload dX12_inline_21 s_261 (by decide) (by decide) ⟨by omega, by omega⟩ ?_
    refine sx_iconst dX12_inline_22 ⟨by decide, by decide⟩ ?_
    refine sx_iload_n dX12_inline_23 rfl ?_
    refine sx_ishl dX12_inline_24 ?_
    refine sx_ixor dX12_inline_25 ?_
    refine sy_iastore dX12_inline_26 s_261 (by decide) (by decide) ⟨by omega, by omega⟩ (fun h6 eh6 => ?_)
    have Ih6 := Ih4.up eh6 (by exact omc_all_lt (Or.inl rfl) (by decide) (by decide)) rfl
    have th6_224_67 := eh6.2 (224) 67 (fun q => absurd q.1 (by decide))
    have th6_224_68 := eh6.2 (224) 68 (fun q => absurd q.1 (by decide))
    have th6_224_71 := eh6.2 (224) 71 (fun q => absurd q.1 (by decide))
    have th6_224_73 := eh6.2 (224) 73 (fun q => absurd q.1 (by decide))
    have th6_224_74 := eh6.2 (224) 74 (fun q => absurd q.1 (by decide))
    have th6_224_85 := eh6.2 (224) 85 (fun q => absurd q.1 (by decide))
    have th6_224_100 := eh6.2 (224) 100 (fun q => absurd q.1 (by decide))
    have th6_261_30 := eh6.2 (261) 30 (by omega)
    have th6_261_31 := eh6.2 (261) 31 (by omega)
    refine sx_aload_n dX12_inline_27 rfl ?_
    refine sx_getS (k := 61) (t := 261) cl_12 fl_X12_124 dX12_inline_28 s_224 (by decide) rfl (by decide) ?_
    refine sx_bipush dX12_inline_31 ⟨by decide, by decide, by decide⟩ ?_
    refine sx_iaload dX12_inline_33 s_261 (by decide) (by decide) ⟨by omega, by omega⟩ ?_
    refine sx_ireturn dX12_inline_34 ?_
    exact ⟨_, rfl, ⟨Ih6, ⟨mC_mK Ih6 rfl rfl hJ hB.1, by have := hB.2; omega, by have := hB.2; omega, by have := hB.2; omega⟩, Ih6.2 224 100 rfl⟩⟩
  ·
    replace p_x2 := mt p_x2.mpr (show ¬ (x2 = 1) by rw [c3]; decide)
    clear zx2
    refine sx_iconst dX12_inline_8 ⟨by decide, by decide⟩ ?_
    refine sx_ireturn dX12_inline_9 ?_
    exact ⟨_, rfl, ⟨hI, ⟨mC_mK hI rfl rfl hJ hB.1, by have := hB.2; omega, by have := hB.2; omega, by have := hB.2; omega⟩, hI.2 224 100 rfl⟩⟩
set_option maxRecDepth 20000 in
set_option maxHeartbeats 4000000 in
theorem c_X12_flip {G : sw_G} (d : Nat) {h0 : sw_H} (hJ : mI h0) (hB : mB h0)  : sw_E G NH SH (d + 1) mX12_flip 0 [some (sw_r 224)] [] h0 (sw_Qi (fun z h' => mK (prW [67, 68, 73, 74] [261, 262, 263, 267]) h0 h' ∧ (mB h') ∧ (h' 224 100 = h0 224 100))) := by
  have hI : mK (prW [67, 68, 73, 74] [261, 262, 263, 267]) h0 h0 := mK.refl hJ
  have hB2 := hB.2
  have r30 : (0 : Int) ≤ h0 261 30 ∧ h0 261 30 ≤ 24 := hI.1 261 30
  have r31 : (0 : Int) ≤ h0 261 31 ∧ h0 261 31 ≤ 6 := hI.1 261 31
  refine sx_aload_n dX12_flip_0 rfl ?_
  refine sx_callVv lk_X12_561 cl_12 s_224 (by decide) dX12_flip_1 (vs := []) rfl rfl (Nat.le_of_ble_eq_true rfl) (Nat.le_of_ble_eq_true rfl) rfl (c_X12_keepAct _ hI.1) (fun h1 ph1 => ?_)
  obtain ⟨Kh1, s_h1⟩ := ph1
  have Ih1 := hI.tr Kh1 (prW_sub rfl rfl)
  have th1_224_67 := Kh1.2 224 67 rfl
  have th1_224_68 := Kh1.2 224 68 rfl
  have th1_224_71 := Kh1.2 224 71 rfl
  have th1_224_85 := Kh1.2 224 85 rfl
  have th1_224_100 := Kh1.2 224 100 rfl
  have th1_261_30 := Kh1.2 261 30 rfl
  have th1_261_31 := Kh1.2 261 31 rfl
  refine sx_aload_n dX12_flip_4 rfl ?_
  refine sx_getS (k := 61) (t := 261) cl_12 fl_X12_124 dX12_flip_5 s_224 (by decide) rfl (by decide) ?_
  refine sx_bipush dX12_flip_8 ⟨by decide, by decide, by decide⟩ ?_
  refine sx_sipush dX12_flip_10 ⟨by decide, by decide, by decide⟩ ?_
  refine sx_aload_n dX12_flip_13 rfl ?_
  refine sx_getS (k := 61) (t := 261) cl_12 fl_X12_124 dX12_flip_14 s_224 (by decide) rfl (by decide) ?_
  refine sx_bipush dX12_flip_17 ⟨by decide, by decide, by decide⟩ ?_
  refine sx_iaload dX12_flip_19 s_261 (by decide) (by decide) ⟨by omega, by omega⟩ ?_
  refine sx_imul dX12_flip_20 ?_
  refine sx_bipush dX12_flip_21 ⟨by decide, by decide, by decide⟩ ?_
  refine sx_iadd dX12_flip_23 ?_
  refine sx_sipush dX12_flip_24 ⟨by decide, by decide, by decide⟩ ?_
  refine sx_irem dX12_flip_27 (by decide) ?_
  refine sy_iastore dX12_flip_28 s_261 (by decide) (by decide) ⟨by omega, by omega⟩ (fun h3 eh3 => ?_)
  have Ih3 := Ih1.up eh3 (by exact omc_all_lt (Or.inl rfl) (by decide) (by decide)) rfl
  have th3_224_67 := eh3.2 (224) 67 (fun q => absurd q.1 (by decide))
  have th3_224_68 := eh3.2 (224) 68 (fun q => absurd q.1 (by decide))
  have th3_224_71 := eh3.2 (224) 71 (fun q => absurd q.1 (by decide))
  have th3_224_73 := eh3.2 (224) 73 (fun q => absurd q.1 (by decide))
  have th3_224_74 := eh3.2 (224) 74 (fun q => absurd q.1 (by decide))
  have th3_224_85 := eh3.2 (224) 85 (fun q => absurd q.1 (by decide))
  have th3_224_100 := eh3.2 (224) 100 (fun q => absurd q.1 (by decide))
  have th3_261_30 := eh3.2 (261) 30 (by omega)
  have th3_261_31 := eh3.2 (261) 31 (by omega)
  refine sx_aload_n dX12_flip_29 rfl ?_
  refine sx_getS (k := 61) (t := 261) cl_12 fl_X12_124 dX12_flip_30 s_224 (by decide) rfl (by decide) ?_
  refine sx_bipush dX12_flip_33 ⟨by decide, by decide, by decide⟩ ?_
  refine sx_iaload dX12_flip_35 s_261 (by decide) (by decide) ⟨by omega, by omega⟩ ?_
  refine sx_bipush dX12_flip_36 ⟨by decide, by decide, by decide⟩ ?_
  refine sx_irem dX12_flip_38 (by decide) ?_
  refine sx_aload_n dX12_flip_39 rfl ?_
  refine sx_getS (k := 14) (t := 230) cl_12 fl_X12_30 dX12_flip_40 s_224 (by decide) rfl (by decide) ?_
  refine sx_aload_n dX12_flip_43 rfl ?_
  refine sx_getI (k := 36) cl_12 fl_X12_349 dX12_flip_44 s_224 (by decide) rfl (by decide) ?_
  have r4 : (0 : Int) ≤ h3 224 36 ∧ h3 224 36 ≤ 1 := Ih3.1 224 36
  refine sy_iaF (F := fun z => (0 : Int) ≤ z ∧ z ≤ 100) dX12_flip_47 s_230 (by decide) (by decide) ⟨by omega, by omega⟩ (Ih3.1 230 _) (fun r5 => ?_)
  refine sx_icmp_ge (tgt := 61) dX12_flip_48 (by decide) (fun c6 => ?_) (fun c6 => ?_)
  ·
    refine sx_iconst dX12_flip_61 ⟨by decide, by decide⟩ ?_
    refine sx_ireturn dX12_flip_62 ?_
    exact ⟨_, rfl, ⟨Ih3, ⟨mC_mK Ih3 rfl rfl hJ hB.1, by have := hB.2; omega, by have := hB.2; omega, by have := hB.2; omega⟩, Ih3.2 224 100 rfl⟩⟩
  ·
    refine sx_aload_n dX12_flip_51 rfl ?_
    refine sx_getS (k := 61) (t := 261) cl_12 fl_X12_124 dX12_flip_52 s_224 (by decide) rfl (by decide) ?_
    refine sx_bipush dX12_flip_55 ⟨by decide, by decide, by decide⟩ ?_
    refine sy_iaK (k := 30) (F := fun z => (0 : Int) ≤ z ∧ z ≤ 24) rfl dX12_flip_57 s_261 (by decide) (by decide) ⟨by decide, by decide⟩ (Ih3.1 261 30) (fun r7 => ?_)
    refine sx_if_ne (tgt := 63) dX12_flip_58 (by decide) (fun c8 => ?_) (fun c8 => ?_)
    ·
      refine sx_aload_n dX12_flip_63 rfl ?_
      refine sx_getS (k := 61) (t := 261) cl_12 fl_X12_124 dX12_flip_64 s_224 (by decide) rfl (by decide) ?_
      refine sx_iconst dX12_flip_67 ⟨by decide, by decide⟩ ?_
      refine sx_aload_n dX12_flip_68 rfl ?_
      refine sx_getS (k := 61) (t := 261) cl_12 fl_X12_124 dX12_flip_69 s_224 (by decide) rfl (by decide) ?_
      refine sx_bipush dX12_flip_72 ⟨by decide, by decide, by decide⟩ ?_
      refine sy_iaK (k := 30) (F := fun z => (0 : Int) ≤ z ∧ z ≤ 24) rfl dX12_flip_74 s_261 (by decide) (by decide) ⟨by decide, by decide⟩ (Ih3.1 261 30) (fun r9 => ?_)
      refine sx_iadd dX12_flip_75 ?_
      refine sy_topw (by omega) ?_
      refine sx_iconst dX12_flip_76 ⟨by decide, by decide⟩ ?_
      refine sx_isub dX12_flip_77 ?_
      refine sy_topw (by omega) ?_
      refine sx_dup2 dX12_flip_78 ?_
      refine sx_iaload dX12_flip_79 s_261 (by decide) (by decide) ⟨by omega, by omega⟩ ?_
      refine sx_iconst dX12_flip_80 ⟨by decide, by decide⟩ ?_
      refine sx_aload_n dX12_flip_81 rfl ?_
      refine sx_getS (k := 61) (t := 261) cl_12 fl_X12_124 dX12_flip_82 s_224 (by decide) rfl (by decide) ?_
      refine sx_bipush dX12_flip_85 ⟨by decide, by decide, by decide⟩ ?_
      refine sx_iaload dX12_flip_87 s_261 (by decide) (by decide) ⟨by omega, by omega⟩ ?_
      refine sx_bipush dX12_flip_88 ⟨by decide, by decide, by decide⟩ ?_
      refine sx_idiv dX12_flip_90 (by decide) ?_
      refine sx_ishl dX12_flip_91 ?_
      refine sx_ixor dX12_flip_92 ?_
      refine sy_iastore dX12_flip_93 s_261 (by decide) (by decide) ⟨by omega, by omega⟩ (fun h10 eh10 => ?_)
      have Ih10 := Ih3.up eh10 (by exact omc_all_lt (Or.inl rfl) (by omega) (by omega)) rfl
      have th10_224_67 := eh10.2 (224) 67 (fun q => absurd q.1 (by decide))
      have th10_224_68 := eh10.2 (224) 68 (fun q => absurd q.1 (by decide))
      have th10_224_71 := eh10.2 (224) 71 (fun q => absurd q.1 (by decide))
      have th10_224_73 := eh10.2 (224) 73 (fun q => absurd q.1 (by decide))
      have th10_224_74 := eh10.2 (224) 74 (fun q => absurd q.1 (by decide))
      have th10_224_85 := eh10.2 (224) 85 (fun q => absurd q.1 (by decide))
      have th10_224_100 := eh10.2 (224) 100 (fun q => absurd q.1 (by decide))
      have th10_261_30 := eh10.2 (261) 30 (by omega)
      have th10_261_31 := eh10.2 (261) 31 (by omega)
      refine sx_aload_n dX12_flip_94 rfl ?_
      refine sx_getS (k := 61) (t := 261) cl_12 fl_X12_124 dX12_flip_95 s_224 (by decide) rfl (by decide) ?_
      refine sx_bipush dX12_flip_98 ⟨by decide, by decide, by decide⟩ ?_
      refine sx_iaload dX12_flip_100 s_261 (by decide) (by decide) ⟨by omega, by omega⟩ ?_
      refine sx_bipush dX12_flip_101 ⟨by decide, by decide, by decide⟩ ?_
      refine sx_idiv dX12_flip_103 (by decide) ?_
      refine sx_ireturn dX12_flip_104 ?_
      exact ⟨_, rfl, ⟨Ih10, ⟨mC_mK Ih10 rfl rfl hJ hB.1, by have := hB.2; omega, by have := hB.2; omega, by have := hB.2; omega⟩, Ih10.2 224 100 rfl⟩⟩
    ·
      refine sx_iconst dX12_flip_61 ⟨by decide, by decide⟩ ?_
      refine sx_ireturn dX12_flip_62 ?_
      exact ⟨_, rfl, ⟨Ih3, ⟨mC_mK Ih3 rfl rfl hJ hB.1, by have := hB.2; omega, by have := hB.2; omega, by have := hB.2; omega⟩, Ih3.2 224 100 rfl⟩⟩
set_option maxRecDepth 20000 in
set_option maxHeartbeats 4000000 in
theorem c_X12_undo {G : sw_G} (d : Nat) {h0 : sw_H} (hJ : mI h0) (hB : mB h0)  : sw_E G NH SH (d + 1) mX12_undo 0 [some (sw_r 224)] [] h0 (sw_Qz (fun z h' => mK (prW [73, 74] [261, 267]) h0 h' ∧ (mB h') ∧ (h' 224 100 = h0 224 100))) := by
  have hI : mK (prW [73, 74] [261, 267]) h0 h0 := mK.refl hJ
  have hB2 := hB.2
  have r30 : (0 : Int) ≤ h0 261 30 ∧ h0 261 30 ≤ 24 := hI.1 261 30
  have r31 : (0 : Int) ≤ h0 261 31 ∧ h0 261 31 ≤ 6 := hI.1 261 31
  refine sx_aload_n dX12_undo_0 rfl ?_
  refine sx_getI (k := 73) cl_12 fl_X12_507 dX12_undo_1 s_224 (by decide) rfl (by decide) ?_
  have r1 : (0 : Int) ≤ h0 224 73 ∧ h0 224 73 ≤ 40 := hI.1 224 73
  refine sx_if_ne (tgt := 9) dX12_undo_4 (by decide) (fun c2 => ?_) (fun c2 => ?_)
  ·
    refine sx_aload_n dX12_undo_9 rfl ?_
    refine sx_dupr dX12_undo_10 ?_
    refine sx_getI (k := 73) cl_12 fl_X12_507 dX12_undo_11 s_224 (by decide) rfl (by decide) ?_
    have r3 : (0 : Int) ≤ h0 224 73 ∧ h0 224 73 ≤ 40 := hI.1 224 73
    refine sx_iconst dX12_undo_14 ⟨by decide, by decide⟩ ?_
    refine sx_isub dX12_undo_15 ?_
    refine sy_topw (by omega) ?_
    refine sy_putI (k := 73) cl_12 fl_X12_507 dX12_undo_16 s_224 (by decide) rfl (by decide) rfl rfl (fun h4 eh4 => ?_)
    have Ih4 := hI.up eh4 (show (0 : Int) ≤ _ ∧ _ ≤ (40 : Int) from ⟨by omega, by omega⟩) rfl
    have th4_224_67 := eh4.2 (224) 67 (by decide)
    have th4_224_68 := eh4.2 (224) 68 (by decide)
    have th4_224_71 := eh4.2 (224) 71 (by decide)
    have th4_224_73 := eh4.1
    have th4_224_74 := eh4.2 (224) 74 (by decide)
    have th4_224_85 := eh4.2 (224) 85 (by decide)
    have th4_224_100 := eh4.2 (224) 100 (by decide)
    have th4_261_30 := eh4.2 (261) 30 (fun q => absurd q.1 (by decide))
    have th4_261_31 := eh4.2 (261) 31 (fun q => absurd q.1 (by decide))
    refine sx_aload_n dX12_undo_19 rfl ?_
    refine sx_dupr dX12_undo_20 ?_
    refine sx_getI (k := 74) cl_12 fl_X12_510 dX12_undo_21 s_224 (by decide) rfl (by decide) ?_
    have r5 : (0 : Int) ≤ h4 224 74 ∧ h4 224 74 ≤ 40 := Ih4.1 224 74
    refine sx_iconst dX12_undo_24 ⟨by decide, by decide⟩ ?_
    refine sx_iadd dX12_undo_25 ?_
    refine sy_topw (by omega) ?_
    refine sy_putI (k := 74) cl_12 fl_X12_510 dX12_undo_26 s_224 (by decide) rfl (by decide) rfl rfl (fun h6 eh6 => ?_)
    have Ih6 := Ih4.up eh6 (show (0 : Int) ≤ _ ∧ _ ≤ (40 : Int) from ⟨by omega, by omega⟩) rfl
    have th6_224_67 := eh6.2 (224) 67 (by decide)
    have th6_224_68 := eh6.2 (224) 68 (by decide)
    have th6_224_71 := eh6.2 (224) 71 (by decide)
    have th6_224_73 := eh6.2 (224) 73 (by decide)
    have th6_224_74 := eh6.1
    have th6_224_85 := eh6.2 (224) 85 (by decide)
    have th6_224_100 := eh6.2 (224) 100 (by decide)
    have th6_261_30 := eh6.2 (261) 30 (fun q => absurd q.1 (by decide))
    have th6_261_31 := eh6.2 (261) 31 (fun q => absurd q.1 (by decide))
    refine sx_aload_n dX12_undo_29 rfl ?_
    refine sx_callVv lk_X12_576 cl_12 s_224 (by decide) dX12_undo_30 (vs := []) rfl rfl (Nat.le_of_ble_eq_true rfl) (Nat.le_of_ble_eq_true rfl) rfl (c_X12_swapAll _ Ih6.1) (fun h7 ph7 => ?_)
    have Kh7 := ph7
    have Ih7 := Ih6.tr Kh7 (prW_sub rfl rfl)
    have th7_224_67 := Kh7.2 224 67 rfl
    have th7_224_68 := Kh7.2 224 68 rfl
    have th7_224_71 := Kh7.2 224 71 rfl
    have th7_224_73 := Kh7.2 224 73 rfl
    have th7_224_74 := Kh7.2 224 74 rfl
    have th7_224_85 := Kh7.2 224 85 rfl
    have th7_224_100 := Kh7.2 224 100 rfl
    refine sx_iconst dX12_undo_33 ⟨by decide, by decide⟩ ?_
    refine sx_ireturn dX12_undo_34 ?_
    exact ⟨_, rfl, by omega, ⟨Ih7, ⟨mC_mK Ih7 rfl rfl hJ hB.1, by have := hB.2; omega, by have := hB.2; omega, by have := hB.2; omega⟩, Ih7.2 224 100 rfl⟩⟩
  ·
    refine sx_iconst dX12_undo_7 ⟨by decide, by decide⟩ ?_
    refine sx_ireturn dX12_undo_8 ?_
    exact ⟨_, rfl, by omega, ⟨hI, ⟨mC_mK hI rfl rfl hJ hB.1, by have := hB.2; omega, by have := hB.2; omega, by have := hB.2; omega⟩, hI.2 224 100 rfl⟩⟩
set_option maxRecDepth 20000 in
set_option maxHeartbeats 4000000 in
theorem c_X12_redo {G : sw_G} (d : Nat) {h0 : sw_H} (hJ : mI h0) (hB : mB h0)  : sw_E G NH SH (d + 1) mX12_redo 0 [some (sw_r 224)] [] h0 (sw_Qz (fun z h' => mK (prW [73, 74] [261, 267]) h0 h' ∧ (mB h') ∧ (h' 224 100 = h0 224 100))) := by
  have hI : mK (prW [73, 74] [261, 267]) h0 h0 := mK.refl hJ
  have hB2 := hB.2
  have r30 : (0 : Int) ≤ h0 261 30 ∧ h0 261 30 ≤ 24 := hI.1 261 30
  have r31 : (0 : Int) ≤ h0 261 31 ∧ h0 261 31 ≤ 6 := hI.1 261 31
  refine sx_aload_n dX12_redo_0 rfl ?_
  refine sx_getI (k := 74) cl_12 fl_X12_510 dX12_redo_1 s_224 (by decide) rfl (by decide) ?_
  have r1 : (0 : Int) ≤ h0 224 74 ∧ h0 224 74 ≤ 40 := hI.1 224 74
  refine sx_if_ne (tgt := 9) dX12_redo_4 (by decide) (fun c2 => ?_) (fun c2 => ?_)
  ·
    refine sx_aload_n dX12_redo_9 rfl ?_
    refine sx_callVv lk_X12_576 cl_12 s_224 (by decide) dX12_redo_10 (vs := []) rfl rfl (Nat.le_of_ble_eq_true rfl) (Nat.le_of_ble_eq_true rfl) rfl (c_X12_swapAll _ hI.1) (fun h3 ph3 => ?_)
    have Kh3 := ph3
    have Ih3 := hI.tr Kh3 (prW_sub rfl rfl)
    have th3_224_67 := Kh3.2 224 67 rfl
    have th3_224_68 := Kh3.2 224 68 rfl
    have th3_224_71 := Kh3.2 224 71 rfl
    have th3_224_73 := Kh3.2 224 73 rfl
    have th3_224_74 := Kh3.2 224 74 rfl
    have th3_224_85 := Kh3.2 224 85 rfl
    have th3_224_100 := Kh3.2 224 100 rfl
    refine sx_aload_n dX12_redo_13 rfl ?_
    refine sx_dupr dX12_redo_14 ?_
    refine sx_getI (k := 73) cl_12 fl_X12_507 dX12_redo_15 s_224 (by decide) rfl (by decide) ?_
    have r5 : (0 : Int) ≤ h3 224 73 ∧ h3 224 73 ≤ 40 := Ih3.1 224 73
    refine sx_iconst dX12_redo_18 ⟨by decide, by decide⟩ ?_
    refine sx_iadd dX12_redo_19 ?_
    refine sy_topw (by omega) ?_
    refine sy_putI (k := 73) cl_12 fl_X12_507 dX12_redo_20 s_224 (by decide) rfl (by decide) rfl rfl (fun h6 eh6 => ?_)
    have Ih6 := Ih3.up eh6 (show (0 : Int) ≤ _ ∧ _ ≤ (40 : Int) from ⟨by omega, by omega⟩) rfl
    have th6_224_67 := eh6.2 (224) 67 (by decide)
    have th6_224_68 := eh6.2 (224) 68 (by decide)
    have th6_224_71 := eh6.2 (224) 71 (by decide)
    have th6_224_73 := eh6.1
    have th6_224_74 := eh6.2 (224) 74 (by decide)
    have th6_224_85 := eh6.2 (224) 85 (by decide)
    have th6_224_100 := eh6.2 (224) 100 (by decide)
    have th6_261_30 := eh6.2 (261) 30 (fun q => absurd q.1 (by decide))
    have th6_261_31 := eh6.2 (261) 31 (fun q => absurd q.1 (by decide))
    refine sx_aload_n dX12_redo_23 rfl ?_
    refine sx_dupr dX12_redo_24 ?_
    refine sx_getI (k := 74) cl_12 fl_X12_510 dX12_redo_25 s_224 (by decide) rfl (by decide) ?_
    have r7 : (0 : Int) ≤ h6 224 74 ∧ h6 224 74 ≤ 40 := Ih6.1 224 74
    refine sx_iconst dX12_redo_28 ⟨by decide, by decide⟩ ?_
    refine sx_isub dX12_redo_29 ?_
    refine sy_topw (by omega) ?_
    refine sy_putI (k := 74) cl_12 fl_X12_510 dX12_redo_30 s_224 (by decide) rfl (by decide) rfl rfl (fun h8 eh8 => ?_)
    have Ih8 := Ih6.up eh8 (show (0 : Int) ≤ _ ∧ _ ≤ (40 : Int) from ⟨by omega, by omega⟩) rfl
    have th8_224_67 := eh8.2 (224) 67 (by decide)
    have th8_224_68 := eh8.2 (224) 68 (by decide)
    have th8_224_71 := eh8.2 (224) 71 (by decide)
    have th8_224_73 := eh8.2 (224) 73 (by decide)
    have th8_224_74 := eh8.1
    have th8_224_85 := eh8.2 (224) 85 (by decide)
    have th8_224_100 := eh8.2 (224) 100 (by decide)
    have th8_261_30 := eh8.2 (261) 30 (fun q => absurd q.1 (by decide))
    have th8_261_31 := eh8.2 (261) 31 (fun q => absurd q.1 (by decide))
    refine sx_iconst dX12_redo_33 ⟨by decide, by decide⟩ ?_
    refine sx_ireturn dX12_redo_34 ?_
    exact ⟨_, rfl, by omega, ⟨Ih8, ⟨mC_mK Ih8 rfl rfl hJ hB.1, by have := hB.2; omega, by have := hB.2; omega, by have := hB.2; omega⟩, Ih8.2 224 100 rfl⟩⟩
  ·
    refine sx_iconst dX12_redo_7 ⟨by decide, by decide⟩ ?_
    refine sx_ireturn dX12_redo_8 ?_
    exact ⟨_, rfl, by omega, ⟨hI, ⟨mC_mK hI rfl rfl hJ hB.1, by have := hB.2; omega, by have := hB.2; omega, by have := hB.2; omega⟩, hI.2 224 100 rfl⟩⟩
set_option maxRecDepth 20000 in
set_option maxHeartbeats 4000000 in
theorem c_X12_fault {G : sw_G} (d : Nat) {h0 : sw_H} (hJ : mI h0) (y1 : Int) (hB : mB h0)  : sw_E G NH SH (d) mX12_fault 0 [some (sw_r 224), some (sw_i y1)] [] h0 (sw_Qi (fun z h' => h0 = h')) := by
  have hI : mK (prW [] []) h0 h0 := mK.refl hJ
  refine sx_iload_n dX12_fault_0 rfl ?_
  refine sx_if_ne (tgt := 11) dX12_fault_1 (by decide) (fun c1 => ?_) (fun c1 => ?_)
  ·
    refine sx_iload_n dX12_fault_11 rfl ?_
    refine sx_iconst dX12_fault_12 ⟨by decide, by decide⟩ ?_
    refine sx_icmp_ne (tgt := 23) dX12_fault_13 (by decide) (fun c2 => ?_) (fun c2 => ?_)
    ·
      refine sx_iconst dX12_fault_23 ⟨by decide, by decide⟩ ?_
      refine sx_ireturn dX12_fault_24 ?_
      exact ⟨_, rfl, rfl⟩
    ·
      refine sx_aload_n dX12_fault_16 rfl ?_
      refine sx_getI (k := 5) cl_12 fl_X12_16 dX12_fault_17 s_224 (by decide) rfl (by decide) ?_
      refine sx_goto (tgt := 24) dX12_fault_20 (by decide) ?_
      refine sx_ireturn dX12_fault_24 ?_
      exact ⟨_, rfl, rfl⟩
  ·
    refine sx_aload_n dX12_fault_4 rfl ?_
    refine sx_getI (k := 4) cl_12 fl_X12_227 dX12_fault_5 s_224 (by decide) rfl (by decide) ?_
    have r3 : (0 : Int) ≤ h0 224 4 ∧ h0 224 4 ≤ 7 := hI.1 224 4
    refine sx_goto (tgt := 24) dX12_fault_8 (by decide) ?_
    refine sx_ireturn dX12_fault_24 ?_
    exact ⟨_, rfl, rfl⟩
set_option maxRecDepth 20000 in
set_option maxHeartbeats 4000000 in
theorem c_X12_word {G : sw_G} (d : Nat) {h0 : sw_H} (hJ : mI h0) (y1 y2 : Int) (hB : mB h0)  : sw_E G NH SH (d + 2) mX12_word 0 [some (sw_r 224), some (sw_i y1), some (sw_i y2), none] [] h0 (sw_Qi (fun z h' => h0 = h')) := by
  have hI : mK (prW [] []) h0 h0 := mK.refl hJ
  refine sx_aload_n dX12_word_0 rfl ?_
  refine sx_iload_n dX12_word_1 rfl ?_
  refine sx_callVz lk_X12_570 cl_12 s_224 (by decide) dX12_word_2 (vs := [_]) rfl rfl (Nat.le_of_ble_eq_true rfl) (Nat.le_of_ble_eq_true rfl) rfl (c_X12_isOne _ hI.1 _) (fun x2 h1 zx2 ph1 => ?_)
  obtain ⟨rfl, p_x2⟩ := ph1
  refine sx_if_ne (tgt := 10) dX12_word_5 (by decide) (fun c3 => ?_) (fun c3 => ?_)
  ·
    have vx2 : x2 = 1 := by rcases zx2 with q | q; (exact absurd q c3); exact q
    replace p_x2 := p_x2.mp vx2
    clear zx2
    obtain ⟨wr1, wr2, wr3, wr4⟩ := mC_w hB.1 hJ (w := y1) (by omega) (by omega)
    have rb36 : (0 : Int) ≤ h0 224 36 ∧ h0 224 36 ≤ 1 := hJ 224 36
    refine sx_bipush dX12_word_10 ⟨by decide, by decide, by decide⟩ ?_
    refine sx_aload_n dX12_word_12 rfl ?_
    refine sx_getI (k := 36) cl_12 fl_X12_349 dX12_word_13 s_224 (by decide) rfl (by decide) ?_
    have r4 : (0 : Int) ≤ h0 224 36 ∧ h0 224 36 ≤ 1 := hI.1 224 36
    refine sx_imul dX12_word_16 ?_
    refine sy_topw (by omega) ?_
    refine sx_iload_n dX12_word_17 rfl ?_
    refine sx_iadd dX12_word_18 ?_
    refine sy_topw (by omega) ?_
    refine sy_top (fun v5 ev5 => ?_)
    refine sx_istore_n dX12_word_19 (by decide) ?_
    refine sx_iload_n dX12_word_20 rfl ?_
    refine sx_tsw (dt := 119) (ts := [64, 71, 78, 84, 91, 98, 105]) dX12_word_21 (by decide) (by decide) (by decide) (fun c6 => ?_) (And.intro (fun c6 => ?_) (And.intro (fun c6 => ?_) (And.intro (fun c6 => ?_) (And.intro (fun c6 => ?_) (And.intro (fun c6 => ?_) (And.intro (fun c6 => ?_) (And.intro (fun c6 => ?_) trivial)))))))
    ·
      refine sx_iconst dX12_word_119 ⟨by decide, by decide⟩ ?_
      refine sx_ireturn dX12_word_120 ?_
      exact ⟨_, rfl, rfl⟩
    ·
      refine sx_aload_n dX12_word_64 rfl ?_
      refine sx_getS (k := 18) (t := 234) cl_12 fl_X12_42 dX12_word_65 s_224 (by decide) rfl (by decide) ?_
      refine sx_iload_n dX12_word_68 rfl ?_
      refine sy_iaF (F := fun z => (0 : Int) ≤ z ∧ z ≤ 20) dX12_word_69 s_234 (by decide) (by decide) ⟨by omega, by omega⟩ (hI.1 234 _) (fun r7 => ?_)
      refine sx_ireturn dX12_word_70 ?_
      exact ⟨_, rfl, rfl⟩
    ·
      refine sx_aload_n dX12_word_71 rfl ?_
      refine sx_getS (k := 19) (t := 235) cl_12 fl_X12_45 dX12_word_72 s_224 (by decide) rfl (by decide) ?_
      refine sx_iload_n dX12_word_75 rfl ?_
      refine sx_iaload dX12_word_76 s_235 (by decide) (by decide) ⟨by omega, by omega⟩ ?_
      refine sx_ireturn dX12_word_77 ?_
      exact ⟨_, rfl, rfl⟩
    ·
      refine sx_aload_n dX12_word_78 rfl ?_
      refine sx_iload_n dX12_word_79 rfl ?_
      refine sx_callVi lk_X12_579 cl_12 s_224 (by decide) dX12_word_80 (vs := [_]) rfl rfl (Nat.le_of_ble_eq_true rfl) (Nat.le_of_ble_eq_true rfl) rfl (c_X12_leavesOf _ hI.1 _ (by first | omega | (rw [Int.tmod_eq_emod_of_nonneg (by omega)]; omega) | (rw [Int.tdiv_eq_ediv_of_nonneg (by omega)]; omega))) (fun x9 h8 ph8 => ?_)
      obtain ⟨rfl, p_x9⟩ := ph8
      refine sx_ireturn dX12_word_83 ?_
      exact ⟨_, rfl, rfl⟩
    ·
      refine sx_aload_n dX12_word_84 rfl ?_
      refine sx_getS (k := 21) (t := 237) cl_12 fl_X12_51 dX12_word_85 s_224 (by decide) rfl (by decide) ?_
      refine sx_iload_n dX12_word_88 rfl ?_
      refine sx_iaload dX12_word_89 s_237 (by decide) (by decide) ⟨by omega, by omega⟩ ?_
      refine sx_ireturn dX12_word_90 ?_
      exact ⟨_, rfl, rfl⟩
    ·
      refine sx_aload_n dX12_word_91 rfl ?_
      refine sx_getS (k := 22) (t := 238) cl_12 fl_X12_54 dX12_word_92 s_224 (by decide) rfl (by decide) ?_
      refine sx_iload_n dX12_word_95 rfl ?_
      refine sx_iaload dX12_word_96 s_238 (by decide) (by decide) ⟨by omega, by omega⟩ ?_
      refine sx_ireturn dX12_word_97 ?_
      exact ⟨_, rfl, rfl⟩
    ·
      refine sx_aload_n dX12_word_98 rfl ?_
      refine sx_getS (k := 23) (t := 239) cl_12 fl_X12_57 dX12_word_99 s_224 (by decide) rfl (by decide) ?_
      refine sx_iload_n dX12_word_102 rfl ?_
      refine sx_iaload dX12_word_103 s_239 (by decide) (by decide) ⟨by omega, by omega⟩ ?_
      refine sx_ireturn dX12_word_104 ?_
      exact ⟨_, rfl, rfl⟩
    ·
      refine sx_aload_n dX12_word_105 rfl ?_
      refine sx_iload_n dX12_word_106 rfl ?_
      refine sx_callVz lk_X12_582 cl_12 s_224 (by decide) dX12_word_107 (vs := [_]) rfl rfl (Nat.le_of_ble_eq_true rfl) (Nat.le_of_ble_eq_true rfl) rfl (c_X12_isInlined _ hI.1 _) (fun x11 h10 zx11 ph10 => ?_)
      subst ph10
      refine sx_if_eq (tgt := 117) dX12_word_110 (by decide) (fun c12 => ?_) (fun c12 => ?_)
      ·
        clear zx11
        refine sx_iconst dX12_word_117 ⟨by decide, by decide⟩ ?_
        refine sx_ireturn dX12_word_118 ?_
        exact ⟨_, rfl, rfl⟩
      ·
        have vx11 : x11 = 1 := by rcases zx11 with q | q; (exact absurd q c12); exact q
        clear zx11
        refine sx_iconst dX12_word_113 ⟨by decide, by decide⟩ ?_
        refine sx_goto (tgt := 118) dX12_word_114 (by decide) ?_
        refine sx_ireturn dX12_word_118 ?_
        exact ⟨_, rfl, rfl⟩
  ·
    replace p_x2 := mt p_x2.mpr (show ¬ (x2 = 1) by rw [c3]; decide)
    clear zx2
    refine sx_iconst dX12_word_8 ⟨by decide, by decide⟩ ?_
    refine sx_ireturn dX12_word_9 ?_
    exact ⟨_, rfl, rfl⟩
set_option maxRecDepth 20000 in
set_option maxHeartbeats 4000000 in
theorem c_X12_item {G : sw_G} (d : Nat) {h0 : sw_H} (hJ : mI h0) (y1 y2 y3 : Int) (hB : mB h0)  : sw_E G NH SH (d + 2) mX12_item 0 [some (sw_r 224), some (sw_i y1), some (sw_i y2), some (sw_i y3)] [] h0 (sw_Qi (fun z h' => h0 = h')) := by
  have hI : mK (prW [] []) h0 h0 := mK.refl hJ
  refine sx_aload_n dX12_item_0 rfl ?_
  refine sx_iload_n dX12_item_1 rfl ?_
  refine sx_callVz lk_X12_570 cl_12 s_224 (by decide) dX12_item_2 (vs := [_]) rfl rfl (Nat.le_of_ble_eq_true rfl) (Nat.le_of_ble_eq_true rfl) rfl (c_X12_isOne _ hI.1 _) (fun x2 h1 zx2 ph1 => ?_)
  obtain ⟨rfl, p_x2⟩ := ph1
  refine sx_if_eq (tgt := 23) dX12_item_5 (by decide) (fun c3 => ?_) (fun c3 => ?_)
  ·
    replace p_x2 := mt p_x2.mpr (show ¬ (x2 = 1) by rw [c3]; decide)
    clear zx2
    refine sx_iconst dX12_item_23 ⟨by decide, by decide⟩ ?_
    refine sx_ireturn dX12_item_24 ?_
    exact ⟨_, rfl, rfl⟩
  ·
    have vx2 : x2 = 1 := by rcases zx2 with q | q; (exact absurd q c3); exact q
    replace p_x2 := p_x2.mp vx2
    clear zx2
    obtain ⟨wr1, wr2, wr3, wr4⟩ := mC_w hB.1 hJ (w := y1) (by omega) (by omega)
    have rb36 : (0 : Int) ≤ h0 224 36 ∧ h0 224 36 ≤ 1 := hJ 224 36
    refine sx_iload_n dX12_item_8 rfl ?_
    refine sx_iconst dX12_item_9 ⟨by decide, by decide⟩ ?_
    refine sx_aload_n dX12_item_10 rfl ?_
    refine sx_iload_n dX12_item_11 rfl ?_
    refine sx_callVi lk_X12_546 cl_12 s_224 (by decide) dX12_item_12 (vs := [_]) rfl rfl (Nat.le_of_ble_eq_true rfl) (Nat.le_of_ble_eq_true rfl) rfl (c_X12_manyIn _ hI.1 _ (by first | omega | (rw [Int.tmod_eq_emod_of_nonneg (by omega)]; omega) | (rw [Int.tdiv_eq_ediv_of_nonneg (by omega)]; omega))) (fun x5 h4 ph4 => ?_)
    obtain ⟨rfl, p_x5⟩ := ph4
    refine sx_iconst dX12_item_15 ⟨by decide, by decide⟩ ?_
    refine sx_isub dX12_item_16 ?_
    refine sy_topw (by omega) ?_
    refine sx_callSz lk_X12_500 dX12_item_17 (vs := [_, _, _]) rfl rfl (Nat.le_of_ble_eq_true rfl) (Nat.le_of_ble_eq_true rfl) rfl (c_X12_isIn _ hI.1 _ _ _) (fun x7 h6 zx7 ph6 => ?_)
    obtain ⟨rfl, p_x7⟩ := ph6
    refine sx_if_ne (tgt := 25) dX12_item_20 (by decide) (fun c8 => ?_) (fun c8 => ?_)
    ·
      have vx7 : x7 = 1 := by rcases zx7 with q | q; (exact absurd q c8); exact q
      replace p_x7 := p_x7.mp vx7
      clear zx7
      refine sx_iload_n dX12_item_25 rfl ?_
      refine sx_if_ne (tgt := 43) dX12_item_26 (by decide) (fun c9 => ?_) (fun c9 => ?_)
      ·
        refine sx_iload_n dX12_item_43 rfl ?_
        refine sx_iconst dX12_item_44 ⟨by decide, by decide⟩ ?_
        refine sx_icmp_ne (tgt := 62) dX12_item_45 (by decide) (fun c10 => ?_) (fun c10 => ?_)
        ·
          refine sx_iconst dX12_item_62 ⟨by decide, by decide⟩ ?_
          refine sx_ireturn dX12_item_63 ?_
          exact ⟨_, rfl, rfl⟩
        ·
          refine sx_aload_n dX12_item_48 rfl ?_
          refine sx_getS (k := 25) (t := 241) cl_12 fl_X12_63 dX12_item_49 s_224 (by decide) rfl (by decide) ?_
          refine sx_aload_n dX12_item_52 rfl ?_
          refine sx_iload_n dX12_item_53 rfl ?_
          refine sx_iload_n dX12_item_54 rfl ?_
          refine sx_callVi lk_X12_519 cl_12 s_224 (by decide) dX12_item_55 (vs := [_, _]) rfl rfl (Nat.le_of_ble_eq_true rfl) (Nat.le_of_ble_eq_true rfl) rfl (c_X12_itemOf _ hI.1 _ _ (by first | omega | (rw [Int.tmod_eq_emod_of_nonneg (by omega)]; omega) | (rw [Int.tdiv_eq_ediv_of_nonneg (by omega)]; omega)) (by first | omega | (rw [Int.tmod_eq_emod_of_nonneg (by omega)]; omega) | (rw [Int.tdiv_eq_ediv_of_nonneg (by omega)]; omega))) (fun x12 h11 ph11 => ?_)
          obtain ⟨rfl, p_x12⟩ := ph11
          refine sy_iaF (F := fun z => (0 : Int) ≤ z ∧ z ≤ 9999) dX12_item_58 s_241 (by decide) (by decide) ⟨by omega, by omega⟩ (hI.1 241 _) (fun r13 => ?_)
          refine sx_goto (tgt := 63) dX12_item_59 (by decide) ?_
          refine sx_ireturn dX12_item_63 ?_
          exact ⟨_, rfl, rfl⟩
      ·
        refine sx_aload_n dX12_item_29 rfl ?_
        refine sx_getS (k := 24) (t := 240) cl_12 fl_X12_60 dX12_item_30 s_224 (by decide) rfl (by decide) ?_
        refine sx_aload_n dX12_item_33 rfl ?_
        refine sx_iload_n dX12_item_34 rfl ?_
        refine sx_iload_n dX12_item_35 rfl ?_
        refine sx_callVi lk_X12_519 cl_12 s_224 (by decide) dX12_item_36 (vs := [_, _]) rfl rfl (Nat.le_of_ble_eq_true rfl) (Nat.le_of_ble_eq_true rfl) rfl (c_X12_itemOf _ hI.1 _ _ (by first | omega | (rw [Int.tmod_eq_emod_of_nonneg (by omega)]; omega) | (rw [Int.tdiv_eq_ediv_of_nonneg (by omega)]; omega)) (by first | omega | (rw [Int.tmod_eq_emod_of_nonneg (by omega)]; omega) | (rw [Int.tdiv_eq_ediv_of_nonneg (by omega)]; omega))) (fun x15 h14 ph14 => ?_)
        obtain ⟨rfl, p_x15⟩ := ph14
        refine sy_iaF (F := fun z => (0 : Int) ≤ z ∧ z ≤ 7) dX12_item_39 s_240 (by decide) (by decide) ⟨by omega, by omega⟩ (hI.1 240 _) (fun r16 => ?_)
        refine sx_goto (tgt := 63) dX12_item_40 (by decide) ?_
        refine sx_ireturn dX12_item_63 ?_
        exact ⟨_, rfl, rfl⟩
    ·
      replace p_x7 := mt p_x7.mpr (show ¬ (x7 = 1) by rw [c8]; decide)
      clear zx7
      refine sx_iconst dX12_item_23 ⟨by decide, by decide⟩ ?_
      refine sx_ireturn dX12_item_24 ?_
      exact ⟨_, rfl, rfl⟩
set_option maxRecDepth 20000 in
set_option maxHeartbeats 4000000 in
theorem c_X12_height {G : sw_G} (d : Nat) {h0 : sw_H} (hJ : mI h0) (y1 y2 : Int) (hB : mB h0)  : sw_E G NH SH (d + 2) mX12_height 0 [some (sw_r 224), some (sw_i y1), some (sw_i y2)] [] h0 (sw_Qi (fun z h' => h0 = h')) := by
  have hI : mK (prW [] []) h0 h0 := mK.refl hJ
  refine sx_aload_n dX12_height_0 rfl ?_
  refine sx_iload_n dX12_height_1 rfl ?_
  refine sx_callVz lk_X12_570 cl_12 s_224 (by decide) dX12_height_2 (vs := [_]) rfl rfl (Nat.le_of_ble_eq_true rfl) (Nat.le_of_ble_eq_true rfl) rfl (c_X12_isOne _ hI.1 _) (fun x2 h1 zx2 ph1 => ?_)
  obtain ⟨rfl, p_x2⟩ := ph1
  refine sx_if_eq (tgt := 37) dX12_height_5 (by decide) (fun c3 => ?_) (fun c3 => ?_)
  ·
    replace p_x2 := mt p_x2.mpr (show ¬ (x2 = 1) by rw [c3]; decide)
    clear zx2
    refine sx_bipush dX12_height_37 ⟨by decide, by decide, by decide⟩ ?_
    refine sx_ireturn dX12_height_39 ?_
    exact ⟨_, rfl, rfl⟩
  ·
    have vx2 : x2 = 1 := by rcases zx2 with q | q; (exact absurd q c3); exact q
    replace p_x2 := p_x2.mp vx2
    clear zx2
    obtain ⟨wr1, wr2, wr3, wr4⟩ := mC_w hB.1 hJ (w := y1) (by omega) (by omega)
    have rb36 : (0 : Int) ≤ h0 224 36 ∧ h0 224 36 ≤ 1 := hJ 224 36
    refine sx_iload_n dX12_height_8 rfl ?_
    refine sx_iconst dX12_height_9 ⟨by decide, by decide⟩ ?_
    refine sx_aload_n dX12_height_10 rfl ?_
    refine sx_iload_n dX12_height_11 rfl ?_
    refine sx_callVi lk_X12_546 cl_12 s_224 (by decide) dX12_height_12 (vs := [_]) rfl rfl (Nat.le_of_ble_eq_true rfl) (Nat.le_of_ble_eq_true rfl) rfl (c_X12_manyIn _ hI.1 _ (by first | omega | (rw [Int.tmod_eq_emod_of_nonneg (by omega)]; omega) | (rw [Int.tdiv_eq_ediv_of_nonneg (by omega)]; omega))) (fun x5 h4 ph4 => ?_)
    obtain ⟨rfl, p_x5⟩ := ph4
    refine sx_iconst dX12_height_15 ⟨by decide, by decide⟩ ?_
    refine sx_isub dX12_height_16 ?_
    refine sy_topw (by omega) ?_
    refine sx_callSz lk_X12_500 dX12_height_17 (vs := [_, _, _]) rfl rfl (Nat.le_of_ble_eq_true rfl) (Nat.le_of_ble_eq_true rfl) rfl (c_X12_isIn _ hI.1 _ _ _) (fun x7 h6 zx7 ph6 => ?_)
    obtain ⟨rfl, p_x7⟩ := ph6
    refine sx_if_eq (tgt := 37) dX12_height_20 (by decide) (fun c8 => ?_) (fun c8 => ?_)
    ·
      replace p_x7 := mt p_x7.mpr (show ¬ (x7 = 1) by rw [c8]; decide)
      clear zx7
      refine sx_bipush dX12_height_37 ⟨by decide, by decide, by decide⟩ ?_
      refine sx_ireturn dX12_height_39 ?_
      exact ⟨_, rfl, rfl⟩
    ·
      have vx7 : x7 = 1 := by rcases zx7 with q | q; (exact absurd q c8); exact q
      replace p_x7 := p_x7.mp vx7
      clear zx7
      refine sx_aload_n dX12_height_23 rfl ?_
      refine sx_getS (k := 26) (t := 242) cl_12 fl_X12_66 dX12_height_24 s_224 (by decide) rfl (by decide) ?_
      refine sx_aload_n dX12_height_27 rfl ?_
      refine sx_iload_n dX12_height_28 rfl ?_
      refine sx_iload_n dX12_height_29 rfl ?_
      refine sx_callVi lk_X12_519 cl_12 s_224 (by decide) dX12_height_30 (vs := [_, _]) rfl rfl (Nat.le_of_ble_eq_true rfl) (Nat.le_of_ble_eq_true rfl) rfl (c_X12_itemOf _ hI.1 _ _ (by first | omega | (rw [Int.tmod_eq_emod_of_nonneg (by omega)]; omega) | (rw [Int.tdiv_eq_ediv_of_nonneg (by omega)]; omega)) (by first | omega | (rw [Int.tmod_eq_emod_of_nonneg (by omega)]; omega) | (rw [Int.tdiv_eq_ediv_of_nonneg (by omega)]; omega))) (fun x10 h9 ph9 => ?_)
      obtain ⟨rfl, p_x10⟩ := ph9
      refine sx_iaload dX12_height_33 s_242 (by decide) (by decide) ⟨by omega, by omega⟩ ?_
      refine sx_goto (tgt := 39) dX12_height_34 (by decide) ?_
      refine sx_ireturn dX12_height_39 ?_
      exact ⟨_, rfl, rfl⟩
set_option maxRecDepth 20000 in
set_option maxHeartbeats 4000000 in
theorem c_X12_cell {G : sw_G} (d : Nat) {h0 : sw_H} (hJ : mI h0) (y1 : Int) (hB : mB h0)  : sw_E G NH SH (d + 1) mX12_cell 0 [some (sw_r 224), some (sw_i y1)] [] h0 (sw_Qi (fun z h' => h0 = h')) := by
  have hI : mK (prW [] []) h0 h0 := mK.refl hJ
  refine sx_iload_n dX12_cell_0 rfl ?_
  refine sx_iconst dX12_cell_1 ⟨by decide, by decide⟩ ?_
  refine sx_aload_n dX12_cell_2 rfl ?_
  refine sx_getS (k := 61) (t := 261) cl_12 fl_X12_124 dX12_cell_3 s_224 (by decide) rfl (by decide) ?_
  refine sx_bipush dX12_cell_6 ⟨by decide, by decide, by decide⟩ ?_
  refine sy_iaK (k := 30) (F := fun z => (0 : Int) ≤ z ∧ z ≤ 24) rfl dX12_cell_8 s_261 (by decide) (by decide) ⟨by decide, by decide⟩ (hI.1 261 30) (fun r1 => ?_)
  refine sx_iconst dX12_cell_9 ⟨by decide, by decide⟩ ?_
  refine sx_isub dX12_cell_10 ?_
  refine sy_topw (by omega) ?_
  refine sx_callSz lk_X12_500 dX12_cell_11 (vs := [_, _, _]) rfl rfl (Nat.le_of_ble_eq_true rfl) (Nat.le_of_ble_eq_true rfl) rfl (c_X12_isIn _ hI.1 _ _ _) (fun x3 h2 zx3 ph2 => ?_)
  obtain ⟨rfl, p_x3⟩ := ph2
  refine sx_if_eq (tgt := 38) dX12_cell_14 (by decide) (fun c4 => ?_) (fun c4 => ?_)
  ·
    replace p_x3 := mt p_x3.mpr (show ¬ (x3 = 1) by rw [c4]; decide)
    clear zx3
    refine sx_iconst dX12_cell_38 ⟨by decide, by decide⟩ ?_
    refine sx_ireturn dX12_cell_39 ?_
    exact ⟨_, rfl, rfl⟩
  ·
    have vx3 : x3 = 1 := by rcases zx3 with q | q; (exact absurd q c4); exact q
    replace p_x3 := p_x3.mp vx3
    clear zx3
    refine sx_aload_n dX12_cell_17 rfl ?_
    refine sx_getS (k := 61) (t := 261) cl_12 fl_X12_124 dX12_cell_18 s_224 (by decide) rfl (by decide) ?_
    refine sx_iconst dX12_cell_21 ⟨by decide, by decide⟩ ?_
    refine sx_aload_n dX12_cell_22 rfl ?_
    refine sx_getS (k := 61) (t := 261) cl_12 fl_X12_124 dX12_cell_23 s_224 (by decide) rfl (by decide) ?_
    refine sx_bipush dX12_cell_26 ⟨by decide, by decide, by decide⟩ ?_
    refine sy_iaK (k := 30) (F := fun z => (0 : Int) ≤ z ∧ z ≤ 24) rfl dX12_cell_28 s_261 (by decide) (by decide) ⟨by decide, by decide⟩ (hI.1 261 30) (fun r5 => ?_)
    refine sx_iadd dX12_cell_29 ?_
    refine sy_topw (by omega) ?_
    refine sx_iconst dX12_cell_30 ⟨by decide, by decide⟩ ?_
    refine sx_isub dX12_cell_31 ?_
    refine sy_topw (by omega) ?_
    refine sx_iload_n dX12_cell_32 rfl ?_
    refine sx_isub dX12_cell_33 ?_
    refine sy_topw (by omega) ?_
    refine sx_iaload dX12_cell_34 s_261 (by decide) (by decide) ⟨by omega, by omega⟩ ?_
    refine sx_goto (tgt := 39) dX12_cell_35 (by decide) ?_
    refine sx_ireturn dX12_cell_39 ?_
    exact ⟨_, rfl, rfl⟩
set_option maxRecDepth 20000 in
set_option maxHeartbeats 4000000 in
theorem c_X12_put {G : sw_G} (d : Nat) {h0 : sw_H} (hJ : mI h0) (y1 : Int) (hB : mB h0)  : sw_E G NH SH (d + 1) mX12_put 0 [some (sw_r 224), some (sw_i y1)] [] h0 (sw_Qi (fun z h' => h0 = h')) := by
  have hI : mK (prW [] []) h0 h0 := mK.refl hJ
  refine sx_iload_n dX12_put_0 rfl ?_
  refine sx_iconst dX12_put_1 ⟨by decide, by decide⟩ ?_
  refine sx_aload_n dX12_put_2 rfl ?_
  refine sx_getS (k := 61) (t := 261) cl_12 fl_X12_124 dX12_put_3 s_224 (by decide) rfl (by decide) ?_
  refine sx_bipush dX12_put_6 ⟨by decide, by decide, by decide⟩ ?_
  refine sy_iaK (k := 31) (F := fun z => (0 : Int) ≤ z ∧ z ≤ 6) rfl dX12_put_8 s_261 (by decide) (by decide) ⟨by decide, by decide⟩ (hI.1 261 31) (fun r1 => ?_)
  refine sx_iconst dX12_put_9 ⟨by decide, by decide⟩ ?_
  refine sx_isub dX12_put_10 ?_
  refine sy_topw (by omega) ?_
  refine sx_callSz lk_X12_500 dX12_put_11 (vs := [_, _, _]) rfl rfl (Nat.le_of_ble_eq_true rfl) (Nat.le_of_ble_eq_true rfl) rfl (c_X12_isIn _ hI.1 _ _ _) (fun x3 h2 zx3 ph2 => ?_)
  obtain ⟨rfl, p_x3⟩ := ph2
  refine sx_if_eq (tgt := 39) dX12_put_14 (by decide) (fun c4 => ?_) (fun c4 => ?_)
  ·
    replace p_x3 := mt p_x3.mpr (show ¬ (x3 = 1) by rw [c4]; decide)
    clear zx3
    refine sx_iconst dX12_put_39 ⟨by decide, by decide⟩ ?_
    refine sx_ireturn dX12_put_40 ?_
    exact ⟨_, rfl, rfl⟩
  ·
    have vx3 : x3 = 1 := by rcases zx3 with q | q; (exact absurd q c4); exact q
    replace p_x3 := p_x3.mp vx3
    clear zx3
    refine sx_aload_n dX12_put_17 rfl ?_
    refine sx_getS (k := 61) (t := 261) cl_12 fl_X12_124 dX12_put_18 s_224 (by decide) rfl (by decide) ?_
    refine sx_bipush dX12_put_21 ⟨by decide, by decide, by decide⟩ ?_
    refine sx_aload_n dX12_put_23 rfl ?_
    refine sx_getS (k := 61) (t := 261) cl_12 fl_X12_124 dX12_put_24 s_224 (by decide) rfl (by decide) ?_
    refine sx_bipush dX12_put_27 ⟨by decide, by decide, by decide⟩ ?_
    refine sy_iaK (k := 31) (F := fun z => (0 : Int) ≤ z ∧ z ≤ 6) rfl dX12_put_29 s_261 (by decide) (by decide) ⟨by decide, by decide⟩ (hI.1 261 31) (fun r5 => ?_)
    refine sx_iadd dX12_put_30 ?_
    refine sy_topw (by omega) ?_
    refine sx_iconst dX12_put_31 ⟨by decide, by decide⟩ ?_
    refine sx_isub dX12_put_32 ?_
    refine sy_topw (by omega) ?_
    refine sx_iload_n dX12_put_33 rfl ?_
    refine sx_isub dX12_put_34 ?_
    refine sy_topw (by omega) ?_
    refine sx_iaload dX12_put_35 s_261 (by decide) (by decide) ⟨by omega, by omega⟩ ?_
    refine sx_goto (tgt := 40) dX12_put_36 (by decide) ?_
    refine sx_ireturn dX12_put_40 ?_
    exact ⟨_, rfl, rfl⟩
set_option maxRecDepth 20000 in
set_option maxHeartbeats 4000000 in
theorem c_X12_lies {G : sw_G} (d : Nat) {h0 : sw_H} (hJ : mI h0) (y1 : Int) (hB : mB h0)  : sw_E G NH SH (d + 1) mX12_lies 0 [some (sw_r 224), some (sw_i y1)] [] h0 (sw_Qi (fun z h' => h0 = h')) := by
  have hI : mK (prW [] []) h0 h0 := mK.refl hJ
  refine sx_iload_n dX12_lies_0 rfl ?_
  refine sx_iconst dX12_lies_1 ⟨by decide, by decide⟩ ?_
  refine sx_aload_n dX12_lies_2 rfl ?_
  refine sx_getI (k := 83) cl_12 fl_X12_516 dX12_lies_3 s_224 (by decide) rfl (by decide) ?_
  have r1 : (0 : Int) ≤ h0 224 83 ∧ h0 224 83 ≤ 64 := hI.1 224 83
  refine sx_iconst dX12_lies_6 ⟨by decide, by decide⟩ ?_
  refine sx_isub dX12_lies_7 ?_
  refine sy_topw (by omega) ?_
  refine sx_callSz lk_X12_500 dX12_lies_8 (vs := [_, _, _]) rfl rfl (Nat.le_of_ble_eq_true rfl) (Nat.le_of_ble_eq_true rfl) rfl (c_X12_isIn _ hI.1 _ _ _) (fun x3 h2 zx3 ph2 => ?_)
  obtain ⟨rfl, p_x3⟩ := ph2
  refine sx_if_eq (tgt := 23) dX12_lies_11 (by decide) (fun c4 => ?_) (fun c4 => ?_)
  ·
    replace p_x3 := mt p_x3.mpr (show ¬ (x3 = 1) by rw [c4]; decide)
    clear zx3
    refine sx_bipush dX12_lies_23 ⟨by decide, by decide, by decide⟩ ?_
    refine sx_ireturn dX12_lies_25 ?_
    exact ⟨_, rfl, rfl⟩
  ·
    have vx3 : x3 = 1 := by rcases zx3 with q | q; (exact absurd q c4); exact q
    replace p_x3 := p_x3.mp vx3
    clear zx3
    refine sx_aload_n dX12_lies_14 rfl ?_
    refine sx_getS (k := 82) (t := 274) cl_12 fl_X12_166 dX12_lies_15 s_224 (by decide) rfl (by decide) ?_
    refine sx_iload_n dX12_lies_18 rfl ?_
    refine sx_iaload dX12_lies_19 s_274 (by decide) (by decide) ⟨by omega, by omega⟩ ?_
    refine sx_goto (tgt := 25) dX12_lies_20 (by decide) ?_
    refine sx_ireturn dX12_lies_25 ?_
    exact ⟨_, rfl, rfl⟩
set_option maxRecDepth 20000 in
set_option maxHeartbeats 4000000 in
theorem c_X12_about {G : sw_G} (d : Nat) {h0 : sw_H} (hJ : mI h0) (y1 : Int) (hB : mB h0)  : sw_E G NH SH (d + 1) mX12_about 0 [some (sw_r 224), some (sw_i y1)] [] h0 (sw_Qi (fun z h' => h0 = h')) := by
  have hI : mK (prW [] []) h0 h0 := mK.refl hJ
  refine sx_iload_n dX12_about_0 rfl ?_
  refine sx_tsw (dt := 169) (ts := [72, 77, 87, 95, 103, 111, 119, 124, 129, 134, 139, 144, 154, 159]) dX12_about_1 (by decide) (by decide) (by decide) (fun c1 => ?_) (And.intro (fun c1 => ?_) (And.intro (fun c1 => ?_) (And.intro (fun c1 => ?_) (And.intro (fun c1 => ?_) (And.intro (fun c1 => ?_) (And.intro (fun c1 => ?_) (And.intro (fun c1 => ?_) (And.intro (fun c1 => ?_) (And.intro (fun c1 => ?_) (And.intro (fun c1 => ?_) (And.intro (fun c1 => ?_) (And.intro (fun c1 => ?_) (And.intro (fun c1 => ?_) (And.intro (fun c1 => ?_) trivial))))))))))))))
  ·
    refine sx_iconst dX12_about_169 ⟨by decide, by decide⟩ ?_
    refine sx_ireturn dX12_about_170 ?_
    exact ⟨_, rfl, rfl⟩
  ·
    refine sx_aload_n dX12_about_72 rfl ?_
    refine sx_callVi lk_X12_497 cl_12 s_224 (by decide) dX12_about_73 (vs := []) rfl rfl (Nat.le_of_ble_eq_true rfl) (Nat.le_of_ble_eq_true rfl) rfl (c_X12_lots _ hI.1) (fun x3 h2 ph2 => ?_)
    obtain ⟨rfl, p_x3⟩ := ph2
    refine sx_ireturn dX12_about_76 ?_
    exact ⟨_, rfl, rfl⟩
  ·
    refine sx_aload_n dX12_about_77 rfl ?_
    refine sx_getS (k := 12) (t := 228) cl_12 fl_X12_24 dX12_about_78 s_224 (by decide) rfl (by decide) ?_
    refine sx_aload_n dX12_about_81 rfl ?_
    refine sx_getI (k := 36) cl_12 fl_X12_349 dX12_about_82 s_224 (by decide) rfl (by decide) ?_
    have r4 : (0 : Int) ≤ h0 224 36 ∧ h0 224 36 ≤ 1 := hI.1 224 36
    refine sy_iaF (F := fun z => (0 : Int) ≤ z ∧ z ≤ 60) dX12_about_85 s_228 (by decide) (by decide) ⟨by omega, by omega⟩ (hI.1 228 _) (fun r5 => ?_)
    refine sx_ireturn dX12_about_86 ?_
    exact ⟨_, rfl, rfl⟩
  ·
    refine sx_aload_n dX12_about_87 rfl ?_
    refine sx_getS (k := 61) (t := 261) cl_12 fl_X12_124 dX12_about_88 s_224 (by decide) rfl (by decide) ?_
    refine sx_bipush dX12_about_91 ⟨by decide, by decide, by decide⟩ ?_
    refine sy_iaK (k := 30) (F := fun z => (0 : Int) ≤ z ∧ z ≤ 24) rfl dX12_about_93 s_261 (by decide) (by decide) ⟨by decide, by decide⟩ (hI.1 261 30) (fun r6 => ?_)
    refine sx_ireturn dX12_about_94 ?_
    exact ⟨_, rfl, rfl⟩
  ·
    refine sx_aload_n dX12_about_95 rfl ?_
    refine sx_getS (k := 61) (t := 261) cl_12 fl_X12_124 dX12_about_96 s_224 (by decide) rfl (by decide) ?_
    refine sx_bipush dX12_about_99 ⟨by decide, by decide, by decide⟩ ?_
    refine sy_iaK (k := 31) (F := fun z => (0 : Int) ≤ z ∧ z ≤ 6) rfl dX12_about_101 s_261 (by decide) (by decide) ⟨by decide, by decide⟩ (hI.1 261 31) (fun r7 => ?_)
    refine sx_ireturn dX12_about_102 ?_
    exact ⟨_, rfl, rfl⟩
  ·
    refine sx_aload_n dX12_about_103 rfl ?_
    refine sx_getS (k := 61) (t := 261) cl_12 fl_X12_124 dX12_about_104 s_224 (by decide) rfl (by decide) ?_
    refine sx_bipush dX12_about_107 ⟨by decide, by decide, by decide⟩ ?_
    refine sx_iaload dX12_about_109 s_261 (by decide) (by decide) ⟨by omega, by omega⟩ ?_
    refine sx_ireturn dX12_about_110 ?_
    exact ⟨_, rfl, rfl⟩
  ·
    refine sx_aload_n dX12_about_111 rfl ?_
    refine sx_getS (k := 61) (t := 261) cl_12 fl_X12_124 dX12_about_112 s_224 (by decide) rfl (by decide) ?_
    refine sx_bipush dX12_about_115 ⟨by decide, by decide, by decide⟩ ?_
    refine sx_iaload dX12_about_117 s_261 (by decide) (by decide) ⟨by omega, by omega⟩ ?_
    refine sx_ireturn dX12_about_118 ?_
    exact ⟨_, rfl, rfl⟩
  ·
    refine sx_aload_n dX12_about_119 rfl ?_
    refine sx_getI (k := 73) cl_12 fl_X12_507 dX12_about_120 s_224 (by decide) rfl (by decide) ?_
    have r8 : (0 : Int) ≤ h0 224 73 ∧ h0 224 73 ≤ 40 := hI.1 224 73
    refine sx_ireturn dX12_about_123 ?_
    exact ⟨_, rfl, rfl⟩
  ·
    refine sx_aload_n dX12_about_124 rfl ?_
    refine sx_getI (k := 74) cl_12 fl_X12_510 dX12_about_125 s_224 (by decide) rfl (by decide) ?_
    have r9 : (0 : Int) ≤ h0 224 74 ∧ h0 224 74 ≤ 40 := hI.1 224 74
    refine sx_ireturn dX12_about_128 ?_
    exact ⟨_, rfl, rfl⟩
  ·
    refine sx_aload_n dX12_about_129 rfl ?_
    refine sx_getI (k := 99) cl_12 fl_X12_513 dX12_about_130 s_224 (by decide) rfl (by decide) ?_
    have r10 : (0 : Int) ≤ h0 224 99 ∧ h0 224 99 ≤ 30 := hI.1 224 99
    refine sx_ireturn dX12_about_133 ?_
    exact ⟨_, rfl, rfl⟩
  ·
    refine sx_aload_n dX12_about_134 rfl ?_
    refine sx_getI (k := 100) cl_12 fl_X12_679 dX12_about_135 s_224 (by decide) rfl (by decide) ?_
    have r11 : (0 : Int) ≤ h0 224 100 ∧ h0 224 100 ≤ 100000 := hI.1 224 100
    refine sx_ireturn dX12_about_138 ?_
    exact ⟨_, rfl, rfl⟩
  ·
    refine sx_aload_n dX12_about_139 rfl ?_
    refine sx_getI (k := 2) cl_12 fl_X12_346 dX12_about_140 s_224 (by decide) rfl (by decide) ?_
    have r12 : (0 : Int) ≤ h0 224 2 ∧ h0 224 2 ≤ 1600 := hI.1 224 2
    refine sx_ireturn dX12_about_143 ?_
    exact ⟨_, rfl, rfl⟩
  ·
    refine sx_aload_n dX12_about_144 rfl ?_
    refine sx_getS (k := 13) (t := 229) cl_12 fl_X12_27 dX12_about_145 s_224 (by decide) rfl (by decide) ?_
    refine sx_aload_n dX12_about_148 rfl ?_
    refine sx_getI (k := 36) cl_12 fl_X12_349 dX12_about_149 s_224 (by decide) rfl (by decide) ?_
    have r13 : (0 : Int) ≤ h0 224 36 ∧ h0 224 36 ≤ 1 := hI.1 224 36
    refine sy_iaF (F := fun z => (0 : Int) ≤ z ∧ z ≤ 60) dX12_about_152 s_229 (by decide) (by decide) ⟨by omega, by omega⟩ (hI.1 229 _) (fun r14 => ?_)
    refine sx_ireturn dX12_about_153 ?_
    exact ⟨_, rfl, rfl⟩
  ·
    refine sx_aload_n dX12_about_154 rfl ?_
    refine sx_getI (k := 83) cl_12 fl_X12_516 dX12_about_155 s_224 (by decide) rfl (by decide) ?_
    have r15 : (0 : Int) ≤ h0 224 83 ∧ h0 224 83 ≤ 64 := hI.1 224 83
    refine sx_ireturn dX12_about_158 ?_
    exact ⟨_, rfl, rfl⟩
  ·
    refine sx_aload_n dX12_about_159 rfl ?_
    refine sx_getS (k := 14) (t := 230) cl_12 fl_X12_30 dX12_about_160 s_224 (by decide) rfl (by decide) ?_
    refine sx_aload_n dX12_about_163 rfl ?_
    refine sx_getI (k := 36) cl_12 fl_X12_349 dX12_about_164 s_224 (by decide) rfl (by decide) ?_
    have r16 : (0 : Int) ≤ h0 224 36 ∧ h0 224 36 ≤ 1 := hI.1 224 36
    refine sy_iaF (F := fun z => (0 : Int) ≤ z ∧ z ≤ 100) dX12_about_167 s_230 (by decide) (by decide) ⟨by omega, by omega⟩ (hI.1 230 _) (fun r17 => ?_)
    refine sx_ireturn dX12_about_168 ?_
    exact ⟨_, rfl, rfl⟩
set_option maxRecDepth 20000 in
set_option maxHeartbeats 4000000 in
theorem c_X12_calls {G : sw_G} (d : Nat) {h0 : sw_H} (hJ : mI h0) (y1 : Int) (hB : mB h0)  : sw_E G NH SH (d + 2) mX12_calls 0 [some (sw_r 224), some (sw_i y1), none, none] [] h0 (sw_Qi (fun z h' => h0 = h')) := by
  have hI : mK (prW [] []) h0 h0 := mK.refl hJ
  refine sx_aload_n dX12_calls_0 rfl ?_
  refine sx_iload_n dX12_calls_1 rfl ?_
  refine sx_callVz lk_X12_570 cl_12 s_224 (by decide) dX12_calls_2 (vs := [_]) rfl rfl (Nat.le_of_ble_eq_true rfl) (Nat.le_of_ble_eq_true rfl) rfl (c_X12_isOne _ hI.1 _) (fun x2 h1 zx2 ph1 => ?_)
  obtain ⟨rfl, p_x2⟩ := ph1
  refine sx_if_ne (tgt := 10) dX12_calls_5 (by decide) (fun c3 => ?_) (fun c3 => ?_)
  ·
    have vx2 : x2 = 1 := by rcases zx2 with q | q; (exact absurd q c3); exact q
    replace p_x2 := p_x2.mp vx2
    clear zx2
    obtain ⟨wr1, wr2, wr3, wr4⟩ := mC_w hB.1 hJ (w := y1) (by omega) (by omega)
    have rb36 : (0 : Int) ≤ h0 224 36 ∧ h0 224 36 ≤ 1 := hJ 224 36
    refine sx_iconst dX12_calls_10 ⟨by decide, by decide⟩ ?_
    refine sx_istore_n dX12_calls_11 (by decide) ?_
    refine sx_iconst dX12_calls_12 ⟨by decide, by decide⟩ ?_
    refine sx_istore_n dX12_calls_13 (by decide) ?_
    refine sx_loop2 (fun (h : sw_H) (set : Int) (i : Int) => (h0 = h) ∧ (0 ≤ i)) (fun (h : sw_H) (set : Int) (i : Int) => (60 - i).toNat) (fun (h : sw_H) (set : Int) (i : Int) => sw_E G NH SH (d + 2) mX12_calls 14 [some (sw_r 224), some (sw_i y1), some (sw_i set), some (sw_i i)] [] h (sw_Qi (fun z h' => h0 = h'))) ?_ _ _ _ ?_
    · rintro h4 set_5 i_6 ⟨rfl, j7⟩ ihh4
      try dsimp only at ihh4
      refine sx_iload_n dX12_calls_14 rfl ?_
      refine sx_aload_n dX12_calls_15 rfl ?_
      refine sx_iload_n dX12_calls_16 rfl ?_
      refine sx_callVi lk_X12_546 cl_12 s_224 (by decide) dX12_calls_17 (vs := [_]) rfl rfl (Nat.le_of_ble_eq_true rfl) (Nat.le_of_ble_eq_true rfl) rfl (c_X12_manyIn _ hI.1 _ (by first | omega | (rw [Int.tmod_eq_emod_of_nonneg (by omega)]; omega) | (rw [Int.tdiv_eq_ediv_of_nonneg (by omega)]; omega))) (fun x9 h8 ph8 => ?_)
      obtain ⟨rfl, p_x9⟩ := ph8
      refine sx_icmp_ge (tgt := 60) dX12_calls_20 (by decide) (fun c10 => ?_) (fun c10 => ?_)
      ·
        refine sx_iload_n dX12_calls_60 rfl ?_
        refine sx_ireturn dX12_calls_61 ?_
        exact ⟨_, rfl, rfl⟩
      ·
        refine sx_aload_n dX12_calls_23 rfl ?_
        refine sx_getS (k := 24) (t := 240) cl_12 fl_X12_60 dX12_calls_24 s_224 (by decide) rfl (by decide) ?_
        refine sx_aload_n dX12_calls_27 rfl ?_
        refine sx_iload_n dX12_calls_28 rfl ?_
        refine sx_iload_n dX12_calls_29 rfl ?_
        refine sx_callVi lk_X12_519 cl_12 s_224 (by decide) dX12_calls_30 (vs := [_, _]) rfl rfl (Nat.le_of_ble_eq_true rfl) (Nat.le_of_ble_eq_true rfl) rfl (c_X12_itemOf _ hI.1 _ _ (by first | omega | (rw [Int.tmod_eq_emod_of_nonneg (by omega)]; omega) | (rw [Int.tdiv_eq_ediv_of_nonneg (by omega)]; omega)) (by first | omega | (rw [Int.tmod_eq_emod_of_nonneg (by omega)]; omega) | (rw [Int.tdiv_eq_ediv_of_nonneg (by omega)]; omega))) (fun x12 h11 ph11 => ?_)
        obtain ⟨rfl, p_x12⟩ := ph11
        refine sy_iaF (F := fun z => (0 : Int) ≤ z ∧ z ≤ 7) dX12_calls_33 s_240 (by decide) (by decide) ⟨by omega, by omega⟩ (hI.1 240 _) (fun r13 => ?_)
        refine sx_iconst dX12_calls_34 ⟨by decide, by decide⟩ ?_
        refine sx_icmp_ne (tgt := 54) dX12_calls_35 (by decide) (fun c14 => ?_) (fun c14 => ?_)
        ·
          refine sx_iinc dX12_calls_54 (by decide) rfl ?_
          rw [sw_w_id (by omega) (by omega)]
          refine sx_goto (tgt := 14) dX12_calls_57 (by decide) ?_
          exact ihh4 _ _ _ ⟨rfl, by omega⟩ (by exact sy_dec (by omega) (by omega))
        ·
          refine sx_iload_n dX12_calls_38 rfl ?_
          refine sx_iconst dX12_calls_39 ⟨by decide, by decide⟩ ?_
          refine sx_aload_n dX12_calls_40 rfl ?_
          refine sx_getS (k := 25) (t := 241) cl_12 fl_X12_63 dX12_calls_41 s_224 (by decide) rfl (by decide) ?_
          refine sx_aload_n dX12_calls_44 rfl ?_
          refine sx_iload_n dX12_calls_45 rfl ?_
          refine sx_iload_n dX12_calls_46 rfl ?_
          refine sx_callVi lk_X12_519 cl_12 s_224 (by decide) dX12_calls_47 (vs := [_, _]) rfl rfl (Nat.le_of_ble_eq_true rfl) (Nat.le_of_ble_eq_true rfl) rfl (c_X12_itemOf _ hI.1 _ _ (by first | omega | (rw [Int.tmod_eq_emod_of_nonneg (by omega)]; omega) | (rw [Int.tdiv_eq_ediv_of_nonneg (by omega)]; omega)) (by first | omega | (rw [Int.tmod_eq_emod_of_nonneg (by omega)]; omega) | (rw [Int.tdiv_eq_ediv_of_nonneg (by omega)]; omega))) (fun x16 h15 ph15 => ?_)
          obtain ⟨rfl, p_x16⟩ := ph15
          refine sy_iaF (F := fun z => (0 : Int) ≤ z ∧ z ≤ 9999) dX12_calls_50 s_241 (by decide) (by decide) ⟨by omega, by omega⟩ (hI.1 241 _) (fun r17 => ?_)
          refine sx_ishl dX12_calls_51 ?_
          refine sx_ior dX12_calls_52 ?_
          refine sy_top (fun v18 ev18 => ?_)
          refine sx_istore_n dX12_calls_53 (by decide) ?_
          refine sx_iinc dX12_calls_54 (by decide) rfl ?_
          rw [sw_w_id (by omega) (by omega)]
          refine sx_goto (tgt := 14) dX12_calls_57 (by decide) ?_
          exact ihh4 _ _ _ ⟨rfl, by omega⟩ (by exact sy_dec (by omega) (by omega))
    · exact ⟨rfl, by omega⟩
  ·
    replace p_x2 := mt p_x2.mpr (show ¬ (x2 = 1) by rw [c3]; decide)
    clear zx2
    refine sx_iconst dX12_calls_8 ⟨by decide, by decide⟩ ?_
    refine sx_ireturn dX12_calls_9 ?_
    exact ⟨_, rfl, rfl⟩
set_option maxRecDepth 20000 in
set_option maxHeartbeats 4000000 in
theorem c_X12_callers {G : sw_G} (d : Nat) {h0 : sw_H} (hJ : mI h0) (y1 : Int) (hB : mB h0)  : sw_E G NH SH (d + 3) mX12_callers 0 [some (sw_r 224), some (sw_i y1), none, none] [] h0 (sw_Qi (fun z h' => h0 = h')) := by
  have hI : mK (prW [] []) h0 h0 := mK.refl hJ
  refine sx_aload_n dX12_callers_0 rfl ?_
  refine sx_iload_n dX12_callers_1 rfl ?_
  refine sx_callVz lk_X12_570 cl_12 s_224 (by decide) dX12_callers_2 (vs := [_]) rfl rfl (Nat.le_of_ble_eq_true rfl) (Nat.le_of_ble_eq_true rfl) rfl (c_X12_isOne _ hI.1 _) (fun x2 h1 zx2 ph1 => ?_)
  obtain ⟨rfl, p_x2⟩ := ph1
  refine sx_if_ne (tgt := 10) dX12_callers_5 (by decide) (fun c3 => ?_) (fun c3 => ?_)
  ·
    have vx2 : x2 = 1 := by rcases zx2 with q | q; (exact absurd q c3); exact q
    replace p_x2 := p_x2.mp vx2
    clear zx2
    obtain ⟨wr1, wr2, wr3, wr4⟩ := mC_w hB.1 hJ (w := y1) (by omega) (by omega)
    have rb36 : (0 : Int) ≤ h0 224 36 ∧ h0 224 36 ≤ 1 := hJ 224 36
    refine sx_iconst dX12_callers_10 ⟨by decide, by decide⟩ ?_
    refine sx_iload_n dX12_callers_11 rfl ?_
    refine sx_ishl dX12_callers_12 ?_
    refine sy_top (fun v4 ev4 => ?_)
    refine sx_istore_n dX12_callers_13 (by decide) ?_
    refine sx_iload_n dX12_callers_14 rfl ?_
    refine sx_iconst dX12_callers_15 ⟨by decide, by decide⟩ ?_
    refine sx_iadd dX12_callers_16 ?_
    refine sy_topw (by omega) ?_
    refine sy_top (fun v5 ev5 => ?_)
    refine sx_istore_n dX12_callers_17 (by decide) ?_
    refine sx_loop2 (fun (h : sw_H) (set : Int) (k : Int) => (h0 = h) ∧ (0 ≤ k) ∧ (k ≤ 6)) (fun (h : sw_H) (set : Int) (k : Int) => (10 - k).toNat) (fun (h : sw_H) (set : Int) (k : Int) => sw_E G NH SH (d + 3) mX12_callers 18 [some (sw_r 224), some (sw_i y1), some (sw_i set), some (sw_i k)] [] h (sw_Qi (fun z h' => h0 = h'))) ?_ _ _ _ ?_
    · rintro h6 set_7 k_8 ⟨rfl, j9, j10⟩ ihh6
      try dsimp only at ihh6
      refine sx_iload_n dX12_callers_18 rfl ?_
      refine sx_aload_n dX12_callers_19 rfl ?_
      refine sx_callVi lk_X12_497 cl_12 s_224 (by decide) dX12_callers_20 (vs := []) rfl rfl (Nat.le_of_ble_eq_true rfl) (Nat.le_of_ble_eq_true rfl) rfl (c_X12_lots _ hI.1) (fun x12 h11 ph11 => ?_)
      obtain ⟨rfl, p_x12⟩ := ph11
      refine sx_icmp_ge (tgt := 48) dX12_callers_23 (by decide) (fun c13 => ?_) (fun c13 => ?_)
      ·
        refine sx_iload_n dX12_callers_48 rfl ?_
        refine sx_iconst dX12_callers_49 ⟨by decide, by decide⟩ ?_
        refine sx_iload_n dX12_callers_50 rfl ?_
        refine sx_ishl dX12_callers_51 ?_
        refine sx_iconst dX12_callers_52 ⟨by decide, by decide⟩ ?_
        refine sx_ixor dX12_callers_53 ?_
        refine sx_iand dX12_callers_54 ?_
        refine sx_ireturn dX12_callers_55 ?_
        exact ⟨_, rfl, rfl⟩
      ·
        refine sx_aload_n dX12_callers_26 rfl ?_
        refine sx_iload_n dX12_callers_27 rfl ?_
        refine sx_callVi lk_X12_585 cl_12 s_224 (by decide) dX12_callers_28 (vs := [_]) rfl rfl (Nat.le_of_ble_eq_true rfl) (Nat.le_of_ble_eq_true rfl) rfl (c_X12_calls _ hI.1 _ (hB)) (fun x15 h14 ph14 => ?_)
        subst ph14
        refine sx_iload_n dX12_callers_31 rfl ?_
        refine sx_iand dX12_callers_32 ?_
        refine sx_if_eq (tgt := 42) dX12_callers_33 (by decide) (fun c16 => ?_) (fun c16 => ?_)
        ·
          refine sx_iinc dX12_callers_42 (by decide) rfl ?_
          rw [sw_w_id (by omega) (by omega)]
          refine sx_goto (tgt := 18) dX12_callers_45 (by decide) ?_
          exact ihh6 _ _ _ ⟨rfl, by omega, by omega⟩ (by exact sy_dec (by omega) (by omega))
        ·
          refine sx_iload_n dX12_callers_36 rfl ?_
          refine sx_iconst dX12_callers_37 ⟨by decide, by decide⟩ ?_
          refine sx_iload_n dX12_callers_38 rfl ?_
          refine sx_ishl dX12_callers_39 ?_
          refine sx_ior dX12_callers_40 ?_
          refine sy_top (fun v17 ev17 => ?_)
          refine sx_istore_n dX12_callers_41 (by decide) ?_
          refine sx_iinc dX12_callers_42 (by decide) rfl ?_
          rw [sw_w_id (by omega) (by omega)]
          refine sx_goto (tgt := 18) dX12_callers_45 (by decide) ?_
          exact ihh6 _ _ _ ⟨rfl, by omega, by omega⟩ (by exact sy_dec (by omega) (by omega))
    · exact ⟨rfl, by omega, by omega⟩
  ·
    replace p_x2 := mt p_x2.mpr (show ¬ (x2 = 1) by rw [c3]; decide)
    clear zx2
    refine sx_iconst dX12_callers_8 ⟨by decide, by decide⟩ ?_
    refine sx_ireturn dX12_callers_9 ?_
    exact ⟨_, rfl, rfl⟩
set_option maxRecDepth 20000 in
set_option maxHeartbeats 4000000 in
theorem c_X12_nested {G : sw_G} (d : Nat) {h0 : sw_H} (hJ : mI h0) (y1 : Int) (hB : mB h0)  : sw_E G NH SH (d + 3) mX12_nested 0 [some (sw_r 224), some (sw_i y1), none, none] [] h0 (sw_Qi (fun z h' => mK (prW [] [268]) h0 h' ∧ (mB h') ∧ (h' 224 100 = h0 224 100))) := by
  have hI : mK (prW [] [268]) h0 h0 := mK.refl hJ
  refine sx_aload_n dX12_nested_0 rfl ?_
  refine sx_iload_n dX12_nested_1 rfl ?_
  refine sx_callVz lk_X12_570 cl_12 s_224 (by decide) dX12_nested_2 (vs := [_]) rfl rfl (Nat.le_of_ble_eq_true rfl) (Nat.le_of_ble_eq_true rfl) rfl (c_X12_isOne _ hI.1 _) (fun x2 h1 zx2 ph1 => ?_)
  obtain ⟨rfl, p_x2⟩ := ph1
  refine sx_if_ne (tgt := 10) dX12_nested_5 (by decide) (fun c3 => ?_) (fun c3 => ?_)
  ·
    have vx2 : x2 = 1 := by rcases zx2 with q | q; (exact absurd q c3); exact q
    replace p_x2 := p_x2.mp vx2
    clear zx2
    obtain ⟨wr1, wr2, wr3, wr4⟩ := mC_w hB.1 hJ (w := y1) (by omega) (by omega)
    have rb36 : (0 : Int) ≤ h0 224 36 ∧ h0 224 36 ≤ 1 := hJ 224 36
    refine sx_iconst dX12_nested_10 ⟨by decide, by decide⟩ ?_
    refine sx_istore_n dX12_nested_11 (by decide) ?_
    refine sx_loop1 (fun (h : sw_H) (k : Int) => (mK (prW [] [268]) h0 h) ∧ (0 ≤ k)) (fun (h : sw_H) (k : Int) => (10 - k).toNat) (fun (h : sw_H) (k : Int) => sw_E G NH SH (d + 3) mX12_nested 12 [some (sw_r 224), some (sw_i y1), some (sw_i k), none] [] h (sw_Qi (fun z h' => mK (prW [] [268]) h0 h' ∧ (mB h') ∧ (h' 224 100 = h0 224 100)))) ?_ _ _ ?_
    · rintro h4 k_5 ⟨Ih4, j6⟩ ihh4
      try dsimp only at ihh4
      refine sx_iload_n dX12_nested_12 rfl ?_
      refine sx_iload_n dX12_nested_13 rfl ?_
      refine sx_icmp_gt (tgt := 78) dX12_nested_14 (by decide) (fun c7 => ?_) (fun c7 => ?_)
      ·
        refine sx_aload_n dX12_nested_78 rfl ?_
        refine sx_getS (k := 75) (t := 268) cl_12 fl_X12_148 dX12_nested_79 s_224 (by decide) rfl (by decide) ?_
        refine sx_iload_n dX12_nested_82 rfl ?_
        refine sx_iaload dX12_nested_83 s_268 (by decide) (by decide) ⟨by omega, by omega⟩ ?_
        refine sx_ireturn dX12_nested_84 ?_
        exact ⟨_, rfl, ⟨Ih4, mB_mK Ih4 rfl rfl hJ hB, Ih4.2 224 100 rfl⟩⟩
      ·
        refine sx_aload_n dX12_nested_17 rfl ?_
        refine sx_getS (k := 75) (t := 268) cl_12 fl_X12_148 dX12_nested_18 s_224 (by decide) rfl (by decide) ?_
        refine sx_iload_n dX12_nested_21 rfl ?_
        refine sx_iconst dX12_nested_22 ⟨by decide, by decide⟩ ?_
        refine sy_iastore dX12_nested_23 s_268 (by decide) (by decide) ⟨by omega, by omega⟩ (fun h8 eh8 => ?_)
        have Ih8 := Ih4.up eh8 trivial rfl
        have th8_224_71 := eh8.2 (224) 71 (fun q => absurd q.1 (by decide))
        have th8_224_73 := eh8.2 (224) 73 (fun q => absurd q.1 (by decide))
        have th8_224_74 := eh8.2 (224) 74 (fun q => absurd q.1 (by decide))
        refine sx_iconst dX12_nested_24 ⟨by decide, by decide⟩ ?_
        refine sx_istore_n dX12_nested_25 (by decide) ?_
        refine sx_loop1 (fun (h : sw_H) (e : Int) => (mK (prW [] [268]) h0 h) ∧ (0 ≤ e)) (fun (h : sw_H) (e : Int) => (10 - e).toNat) (fun (h : sw_H) (e : Int) => sw_E G NH SH (d + 3) mX12_nested 26 [some (sw_r 224), some (sw_i y1), some (sw_i k_5), some (sw_i e)] [] h (sw_Qi (fun z h' => mK (prW [] [268]) h0 h' ∧ (mB h') ∧ (h' 224 100 = h0 224 100)))) ?_ _ _ ?_
        · rintro h9 e_10 ⟨Ih9, j11⟩ ihh9
          try dsimp only at ihh9
          refine sx_iload_n dX12_nested_26 rfl ?_
          refine sx_iload_n dX12_nested_27 rfl ?_
          refine sx_icmp_ge (tgt := 72) dX12_nested_28 (by decide) (fun c12 => ?_) (fun c12 => ?_)
          ·
            refine sx_iinc dX12_nested_72 (by decide) rfl ?_
            rw [sw_w_id (by omega) (by omega)]
            refine sx_goto (tgt := 12) dX12_nested_75 (by decide) ?_
            refine sx_kill 3 ?_
            exact ihh4 _ _ ⟨Ih9, by omega⟩ (by exact sy_dec (by omega) (by omega))
          ·
            refine sx_aload_n dX12_nested_31 rfl ?_
            refine sx_iload_n dX12_nested_32 rfl ?_
            refine sx_callVi lk_X12_585 cl_12 s_224 (by decide) dX12_nested_33 (vs := [_]) rfl rfl (Nat.le_of_ble_eq_true rfl) (Nat.le_of_ble_eq_true rfl) rfl (c_X12_calls _ Ih9.1 _ (mB_mK Ih9 rfl rfl hJ hB)) (fun x14 h13 ph13 => ?_)
            subst ph13
            refine sx_iload_n dX12_nested_36 rfl ?_
            refine sx_callSz lk_X12_358 dX12_nested_37 (vs := [_, _]) rfl rfl (Nat.le_of_ble_eq_true rfl) (Nat.le_of_ble_eq_true rfl) rfl (c_X12_bit _ Ih9.1 _ _) (fun x16 h15 zx16 ph15 => ?_)
            subst ph15
            refine sx_if_eq (tgt := 66) dX12_nested_40 (by decide) (fun c17 => ?_) (fun c17 => ?_)
            ·
              clear zx16
              refine sx_iinc dX12_nested_66 (by decide) rfl ?_
              rw [sw_w_id (by omega) (by omega)]
              refine sx_goto (tgt := 26) dX12_nested_69 (by decide) ?_
              exact ihh9 _ _ ⟨Ih9, by omega⟩ (by exact sy_dec (by omega) (by omega))
            ·
              have vx16 : x16 = 1 := by rcases zx16 with q | q; (exact absurd q c17); exact q
              clear zx16
              refine sx_aload_n dX12_nested_43 rfl ?_
              refine sx_getS (k := 75) (t := 268) cl_12 fl_X12_148 dX12_nested_44 s_224 (by decide) rfl (by decide) ?_
              refine sx_iload_n dX12_nested_47 rfl ?_
              refine sx_aload_n dX12_nested_48 rfl ?_
              refine sx_getS (k := 75) (t := 268) cl_12 fl_X12_148 dX12_nested_49 s_224 (by decide) rfl (by decide) ?_
              refine sx_iload_n dX12_nested_52 rfl ?_
              refine sx_iaload dX12_nested_53 s_268 (by decide) (by decide) ⟨by omega, by omega⟩ ?_
              refine sx_aload_n dX12_nested_54 rfl ?_
              refine sx_getS (k := 75) (t := 268) cl_12 fl_X12_148 dX12_nested_55 s_224 (by decide) rfl (by decide) ?_
              refine sx_iload_n dX12_nested_58 rfl ?_
              refine sx_iaload dX12_nested_59 s_268 (by decide) (by decide) ⟨by omega, by omega⟩ ?_
              refine sx_iconst dX12_nested_60 ⟨by decide, by decide⟩ ?_
              refine sx_iadd dX12_nested_61 ?_
              refine sx_callSi lk_X12_588 dX12_nested_62 (vs := [_, _]) rfl rfl (Nat.le_of_ble_eq_true rfl) (Nat.le_of_ble_eq_true rfl) rfl (c_X12_more _ Ih9.1 _ _) (fun x19 h18 ph18 => ?_)
              obtain ⟨rfl, p_x19⟩ := ph18
              refine sy_iastore dX12_nested_65 s_268 (by decide) (by decide) ⟨by omega, by omega⟩ (fun h20 eh20 => ?_)
              have Ih20 := Ih9.up eh20 trivial rfl
              have th20_224_71 := eh20.2 (224) 71 (fun q => absurd q.1 (by decide))
              have th20_224_73 := eh20.2 (224) 73 (fun q => absurd q.1 (by decide))
              have th20_224_74 := eh20.2 (224) 74 (fun q => absurd q.1 (by decide))
              refine sx_iinc dX12_nested_66 (by decide) rfl ?_
              rw [sw_w_id (by omega) (by omega)]
              refine sx_goto (tgt := 26) dX12_nested_69 (by decide) ?_
              exact ihh9 _ _ ⟨Ih20, by omega⟩ (by exact sy_dec (by omega) (by omega))
        · exact ⟨Ih8, by omega⟩
    · exact ⟨hI, by omega⟩
  ·
    replace p_x2 := mt p_x2.mpr (show ¬ (x2 = 1) by rw [c3]; decide)
    clear zx2
    refine sx_iconst dX12_nested_8 ⟨by decide, by decide⟩ ?_
    refine sx_ireturn dX12_nested_9 ?_
    exact ⟨_, rfl, ⟨hI, mB_mK hI rfl rfl hJ hB, hI.2 224 100 rfl⟩⟩
set_option maxRecDepth 20000 in
set_option maxHeartbeats 4000000 in
theorem c_X12_commonest {G : sw_G} (d : Nat) {h0 : sw_H} (hJ : mI h0) (hB : mB h0)  : sw_E G NH SH (d) mX12_commonest 0 [some (sw_r 224), none, none, none, none, none] [] h0 (sw_Qi (fun z h' => h0 = h')) := by
  have hI : mK (prW [] []) h0 h0 := mK.refl hJ
  have rb36 : (0 : Int) ≤ h0 224 36 ∧ h0 224 36 ≤ 1 := hJ 224 36
  have r28 : (0 : Int) ≤ h0 228 (h0 224 36).toNat ∧ h0 228 (h0 224 36).toNat ≤ 60 := hJ 228 _
  refine sx_iconst dX12_commonest_0 ⟨by decide, by decide⟩ ?_
  refine sx_istore_n dX12_commonest_1 (by decide) ?_
  refine sx_iconst dX12_commonest_2 ⟨by decide, by decide⟩ ?_
  refine sx_istore_n dX12_commonest_3 (by decide) ?_
  refine sx_iconst dX12_commonest_4 ⟨by decide, by decide⟩ ?_
  refine sx_istore_n dX12_commonest_5 (by decide) ?_
  refine sx_loop3 (fun (h : sw_H) (its : Int) (most : Int) (t : Int) => (h0 = h) ∧ (0 ≤ t)) (fun (h : sw_H) (its : Int) (most : Int) (t : Int) => (20 - t).toNat) (fun (h : sw_H) (its : Int) (most : Int) (t : Int) => sw_E G NH SH (d) mX12_commonest 6 [some (sw_r 224), some (sw_i its), some (sw_i most), some (sw_i t), none, none] [] h (sw_Qi (fun z h' => h0 = h'))) ?_ _ _ _ _ ?_
  · rintro h1 its_2 most_3 t_4 ⟨rfl, j5⟩ ihh1
    try dsimp only at ihh1
    refine sx_iload_n dX12_commonest_6 rfl ?_
    refine sx_bipush dX12_commonest_7 ⟨by decide, by decide, by decide⟩ ?_
    refine sx_icmp_ge (tgt := 103) dX12_commonest_9 (by decide) (fun c6 => ?_) (fun c6 => ?_)
    ·
      refine sx_iload_n dX12_commonest_103 rfl ?_
      refine sx_ireturn dX12_commonest_104 ?_
      exact ⟨_, rfl, rfl⟩
    ·
      refine sx_iconst dX12_commonest_12 ⟨by decide, by decide⟩ ?_
      refine sx_istore dX12_commonest_13 (by decide) ?_
      refine sx_bipush dX12_commonest_15 ⟨by decide, by decide, by decide⟩ ?_
      refine sx_aload_n dX12_commonest_17 rfl ?_
      refine sx_getI (k := 36) cl_12 fl_X12_349 dX12_commonest_18 s_224 (by decide) rfl (by decide) ?_
      have r7 : (0 : Int) ≤ h0 224 36 ∧ h0 224 36 ≤ 1 := hI.1 224 36
      refine sx_imul dX12_commonest_21 ?_
      refine sy_topw (by omega) ?_
      refine sy_top (fun v8 ev8 => ?_)
      refine sx_istore dX12_commonest_22 (by decide) ?_
      refine sx_loop2 (fun (h : sw_H) (n : Int) (k : Int) => (h0 = h) ∧ (60 * h0 224 36 ≤ k) ∧ (0 ≤ n) ∧ (n ≤ k - 60 * h0 224 36) ∧ (k ≤ 60 * h0 224 36 + 60)) (fun (h : sw_H) (n : Int) (k : Int) => (120 - k).toNat) (fun (h : sw_H) (n : Int) (k : Int) => sw_E G NH SH (d) mX12_commonest 24 [some (sw_r 224), some (sw_i its_2), some (sw_i most_3), some (sw_i t_4), some (sw_i n), some (sw_i k)] [] h (sw_Qi (fun z h' => h0 = h'))) ?_ _ _ _ ?_
      · rintro h9 n_10 k_11 ⟨rfl, j12, j13, j14, j15⟩ ihh9
        try dsimp only at ihh9
        refine sx_iload dX12_commonest_24 rfl ?_
        refine sx_bipush dX12_commonest_26 ⟨by decide, by decide, by decide⟩ ?_
        refine sx_aload_n dX12_commonest_28 rfl ?_
        refine sx_getI (k := 36) cl_12 fl_X12_349 dX12_commonest_29 s_224 (by decide) rfl (by decide) ?_
        have r16 : (0 : Int) ≤ h0 224 36 ∧ h0 224 36 ≤ 1 := hI.1 224 36
        refine sx_imul dX12_commonest_32 ?_
        refine sy_topw (by omega) ?_
        refine sx_aload_n dX12_commonest_33 rfl ?_
        refine sx_getS (k := 12) (t := 228) cl_12 fl_X12_24 dX12_commonest_34 s_224 (by decide) rfl (by decide) ?_
        refine sx_aload_n dX12_commonest_37 rfl ?_
        refine sx_getI (k := 36) cl_12 fl_X12_349 dX12_commonest_38 s_224 (by decide) rfl (by decide) ?_
        have r17 : (0 : Int) ≤ h0 224 36 ∧ h0 224 36 ≤ 1 := hI.1 224 36
        refine sy_iaF (F := fun z => (0 : Int) ≤ z ∧ z ≤ 60) dX12_commonest_41 s_228 (by decide) (by decide) ⟨by omega, by omega⟩ (hI.1 228 _) (fun r18 => ?_)
        refine sx_iadd dX12_commonest_42 ?_
        refine sy_topw (by omega) ?_
        refine sx_icmp_ge (tgt := 83) dX12_commonest_43 (by decide) (fun c19 => ?_) (fun c19 => ?_)
        ·
          refine sx_iload dX12_commonest_83 rfl ?_
          refine sx_iload_n dX12_commonest_85 rfl ?_
          refine sx_icmp_gt (tgt := 92) dX12_commonest_86 (by decide) (fun c20 => ?_) (fun c20 => ?_)
          ·
            refine sx_iload_n dX12_commonest_92 rfl ?_
            refine sx_istore_n dX12_commonest_93 (by decide) ?_
            refine sx_iload dX12_commonest_94 rfl ?_
            refine sx_istore_n dX12_commonest_96 (by decide) ?_
            refine sx_iinc dX12_commonest_97 (by decide) rfl ?_
            rw [sw_w_id (by omega) (by omega)]
            refine sx_goto (tgt := 6) dX12_commonest_100 (by decide) ?_
            refine sx_kill 4 ?_
            refine sx_kill 5 ?_
            exact ihh1 _ _ _ _ ⟨rfl, by omega⟩ (by exact sy_dec (by omega) (by omega))
          ·
            refine sx_goto (tgt := 97) dX12_commonest_89 (by decide) ?_
            refine sx_iinc dX12_commonest_97 (by decide) rfl ?_
            rw [sw_w_id (by omega) (by omega)]
            refine sx_goto (tgt := 6) dX12_commonest_100 (by decide) ?_
            refine sx_kill 4 ?_
            refine sx_kill 5 ?_
            exact ihh1 _ _ _ _ ⟨rfl, by omega⟩ (by exact sy_dec (by omega) (by omega))
        ·
          refine sx_iload dX12_commonest_46 rfl ?_
          refine sx_aload_n dX12_commonest_48 rfl ?_
          refine sx_getS (k := 24) (t := 240) cl_12 fl_X12_60 dX12_commonest_49 s_224 (by decide) rfl (by decide) ?_
          refine sx_iload dX12_commonest_52 rfl ?_
          refine sy_iaF (F := fun z => (0 : Int) ≤ z ∧ z ≤ 7) dX12_commonest_54 s_240 (by decide) (by decide) ⟨by omega, by omega⟩ (hI.1 240 _) (fun r21 => ?_)
          refine sx_if_ne (tgt := 73) dX12_commonest_55 (by decide) (fun c22 => ?_) (fun c22 => ?_)
          ·
            refine sx_iconst dX12_commonest_73 ⟨by decide, by decide⟩ ?_
            refine sx_iadd dX12_commonest_74 ?_
            refine sy_topw (by omega) ?_
            refine sy_top (fun v23 ev23 => ?_)
            refine sx_istore dX12_commonest_75 (by decide) ?_
            refine sx_iinc dX12_commonest_77 (by decide) rfl ?_
            rw [sw_w_id (by omega) (by omega)]
            refine sx_goto (tgt := 24) dX12_commonest_80 (by decide) ?_
            exact ihh9 _ _ _ ⟨rfl, by omega, by omega, by omega, by omega⟩ (by exact sy_dec (by omega) (by omega))
          ·
            refine sx_aload_n dX12_commonest_58 rfl ?_
            refine sx_getS (k := 25) (t := 241) cl_12 fl_X12_63 dX12_commonest_59 s_224 (by decide) rfl (by decide) ?_
            refine sx_iload dX12_commonest_62 rfl ?_
            refine sy_iaF (F := fun z => (0 : Int) ≤ z ∧ z ≤ 9999) dX12_commonest_64 s_241 (by decide) (by decide) ⟨by omega, by omega⟩ (hI.1 241 _) (fun r24 => ?_)
            refine sx_iload_n dX12_commonest_65 rfl ?_
            refine sx_icmp_ne (tgt := 73) dX12_commonest_66 (by decide) (fun c25 => ?_) (fun c25 => ?_)
            ·
              refine sx_iconst dX12_commonest_73 ⟨by decide, by decide⟩ ?_
              refine sx_iadd dX12_commonest_74 ?_
              refine sy_topw (by omega) ?_
              refine sy_top (fun v26 ev26 => ?_)
              refine sx_istore dX12_commonest_75 (by decide) ?_
              refine sx_iinc dX12_commonest_77 (by decide) rfl ?_
              rw [sw_w_id (by omega) (by omega)]
              refine sx_goto (tgt := 24) dX12_commonest_80 (by decide) ?_
              exact ihh9 _ _ _ ⟨rfl, by omega, by omega, by omega, by omega⟩ (by exact sy_dec (by omega) (by omega))
            ·
              refine sx_iconst dX12_commonest_69 ⟨by decide, by decide⟩ ?_
              refine sx_goto (tgt := 74) dX12_commonest_70 (by decide) ?_
              refine sx_iadd dX12_commonest_74 ?_
              refine sy_topw (by omega) ?_
              refine sy_top (fun v27 ev27 => ?_)
              refine sx_istore dX12_commonest_75 (by decide) ?_
              refine sx_iinc dX12_commonest_77 (by decide) rfl ?_
              rw [sw_w_id (by omega) (by omega)]
              refine sx_goto (tgt := 24) dX12_commonest_80 (by decide) ?_
              exact ihh9 _ _ _ ⟨rfl, by omega, by omega, by omega, by omega⟩ (by exact sy_dec (by omega) (by omega))
      · exact ⟨rfl, by omega, by omega, by omega, by omega⟩
  · exact ⟨rfl, by omega⟩
set_option maxRecDepth 20000 in
set_option maxHeartbeats 4000000 in
theorem c_X12_isShuffle {G : sw_G} (d : Nat) {h0 : sw_H} (hJ : mI h0) (y1 y2 : Int) (hC : mC h0) (hw : 0 ≤ y1 ∧ y1 < h0 227 (h0 224 36).toNat) (hi : 0 ≤ y2 ∧ y2 ≤ 50)  : sw_E G NH SH (d + 1) mX12_isShuffle 0 [some (sw_r 224), some (sw_i y1), some (sw_i y2)] [] h0 (sw_Qz (fun z h' => h0 = h' ∧ ((z = 1 → y2 < h0 234 (6 * h0 224 36 + y1).toNat ∧ h0 240 (60 * h0 224 36 + h0 233 (6 * h0 224 36 + y1).toNat + y2).toNat = 0 ∧ h0 241 (60 * h0 224 36 + h0 233 (6 * h0 224 36 + y1).toNat + y2).toNat < 7)))) := by
  have hI : mK (prW [] []) h0 h0 := mK.refl hJ
  obtain ⟨wr1, wr2, wr3, wr4⟩ := mC_w hC hJ (w := y1) (by omega) (by omega)
  have rb36 : (0 : Int) ≤ h0 224 36 ∧ h0 224 36 ≤ 1 := hJ 224 36
  refine sx_iload_n dX12_isShuffle_0 rfl ?_
  refine sx_aload_n dX12_isShuffle_1 rfl ?_
  refine sx_iload_n dX12_isShuffle_2 rfl ?_
  refine sx_callVi lk_X12_546 cl_12 s_224 (by decide) dX12_isShuffle_3 (vs := [_]) rfl rfl (Nat.le_of_ble_eq_true rfl) (Nat.le_of_ble_eq_true rfl) rfl (c_X12_manyIn _ hI.1 _ (by first | omega | (rw [Int.tmod_eq_emod_of_nonneg (by omega)]; omega) | (rw [Int.tdiv_eq_ediv_of_nonneg (by omega)]; omega))) (fun x2 h1 ph1 => ?_)
  obtain ⟨rfl, p_x2⟩ := ph1
  refine sx_icmp_ge (tgt := 43) dX12_isShuffle_6 (by decide) (fun c3 => ?_) (fun c3 => ?_)
  ·
    refine sx_iconst dX12_isShuffle_43 ⟨by decide, by decide⟩ ?_
    refine sx_ireturn dX12_isShuffle_44 ?_
    exact ⟨_, rfl, by omega, ⟨rfl, fun q => by first | (exfalso; omega) | (refine ⟨by omega, ?_, ?_⟩ <;> omega)⟩⟩
  ·
    refine sx_aload_n dX12_isShuffle_9 rfl ?_
    refine sx_getS (k := 24) (t := 240) cl_12 fl_X12_60 dX12_isShuffle_10 s_224 (by decide) rfl (by decide) ?_
    refine sx_aload_n dX12_isShuffle_13 rfl ?_
    refine sx_iload_n dX12_isShuffle_14 rfl ?_
    refine sx_iload_n dX12_isShuffle_15 rfl ?_
    refine sx_callVi lk_X12_519 cl_12 s_224 (by decide) dX12_isShuffle_16 (vs := [_, _]) rfl rfl (Nat.le_of_ble_eq_true rfl) (Nat.le_of_ble_eq_true rfl) rfl (c_X12_itemOf _ hI.1 _ _ (by first | omega | (rw [Int.tmod_eq_emod_of_nonneg (by omega)]; omega) | (rw [Int.tdiv_eq_ediv_of_nonneg (by omega)]; omega)) (by first | omega | (rw [Int.tmod_eq_emod_of_nonneg (by omega)]; omega) | (rw [Int.tdiv_eq_ediv_of_nonneg (by omega)]; omega))) (fun x5 h4 ph4 => ?_)
    obtain ⟨rfl, p_x5⟩ := ph4
    have qx := p_x5.1
    subst qx
    refine sy_iaF (F := fun z => (0 : Int) ≤ z ∧ z ≤ 7) dX12_isShuffle_19 s_240 (by decide) (by decide) ⟨by omega, by omega⟩ (hI.1 240 _) (fun r6 => ?_)
    refine sx_if_ne (tgt := 43) dX12_isShuffle_20 (by decide) (fun c7 => ?_) (fun c7 => ?_)
    ·
      refine sx_iconst dX12_isShuffle_43 ⟨by decide, by decide⟩ ?_
      refine sx_ireturn dX12_isShuffle_44 ?_
      exact ⟨_, rfl, by omega, ⟨rfl, fun q => by first | (exfalso; omega) | (refine ⟨by omega, ?_, ?_⟩ <;> omega)⟩⟩
    ·
      refine sx_aload_n dX12_isShuffle_23 rfl ?_
      refine sx_getS (k := 25) (t := 241) cl_12 fl_X12_63 dX12_isShuffle_24 s_224 (by decide) rfl (by decide) ?_
      refine sx_aload_n dX12_isShuffle_27 rfl ?_
      refine sx_iload_n dX12_isShuffle_28 rfl ?_
      refine sx_iload_n dX12_isShuffle_29 rfl ?_
      refine sx_callVi lk_X12_519 cl_12 s_224 (by decide) dX12_isShuffle_30 (vs := [_, _]) rfl rfl (Nat.le_of_ble_eq_true rfl) (Nat.le_of_ble_eq_true rfl) rfl (c_X12_itemOf _ hI.1 _ _ (by first | omega | (rw [Int.tmod_eq_emod_of_nonneg (by omega)]; omega) | (rw [Int.tdiv_eq_ediv_of_nonneg (by omega)]; omega)) (by first | omega | (rw [Int.tmod_eq_emod_of_nonneg (by omega)]; omega) | (rw [Int.tdiv_eq_ediv_of_nonneg (by omega)]; omega))) (fun x9 h8 ph8 => ?_)
      obtain ⟨rfl, p_x9⟩ := ph8
      have qx2 := p_x9.1
      subst qx2
      refine sy_iaF (F := fun z => (0 : Int) ≤ z ∧ z ≤ 9999) dX12_isShuffle_33 s_241 (by decide) (by decide) ⟨by omega, by omega⟩ (hI.1 241 _) (fun r10 => ?_)
      refine sx_bipush dX12_isShuffle_34 ⟨by decide, by decide, by decide⟩ ?_
      refine sx_icmp_ge (tgt := 43) dX12_isShuffle_36 (by decide) (fun c11 => ?_) (fun c11 => ?_)
      ·
        refine sx_iconst dX12_isShuffle_43 ⟨by decide, by decide⟩ ?_
        refine sx_ireturn dX12_isShuffle_44 ?_
        exact ⟨_, rfl, by omega, ⟨rfl, fun q => by first | (exfalso; omega) | (refine ⟨by omega, ?_, ?_⟩ <;> omega)⟩⟩
      ·
        refine sx_iconst dX12_isShuffle_39 ⟨by decide, by decide⟩ ?_
        refine sx_goto (tgt := 44) dX12_isShuffle_40 (by decide) ?_
        refine sx_ireturn dX12_isShuffle_44 ?_
        exact ⟨_, rfl, by omega, ⟨rfl, fun q => by first | (exfalso; omega) | (refine ⟨by omega, ?_, ?_⟩ <;> omega)⟩⟩
set_option maxRecDepth 20000 in
set_option maxHeartbeats 4000000 in
theorem c_X12_pure {G : sw_G} (d : Nat) {h0 : sw_H} (hJ : mI h0) (hB : mB h0)  : sw_E G NH SH (d + 2) mX12_pure 0 [some (sw_r 224), none, none, none] [] h0 (sw_Qi (fun z h' => h0 = h')) := by
  have hI : mK (prW [] []) h0 h0 := mK.refl hJ
  refine sx_iconst dX12_pure_0 ⟨by decide, by decide⟩ ?_
  refine sx_istore_n dX12_pure_1 (by decide) ?_
  refine sx_iconst dX12_pure_2 ⟨by decide, by decide⟩ ?_
  refine sx_istore_n dX12_pure_3 (by decide) ?_
  refine sx_loop2 (fun (h : sw_H) (set : Int) (w : Int) => (h0 = h) ∧ (0 ≤ w)) (fun (h : sw_H) (set : Int) (w : Int) => (10 - w).toNat) (fun (h : sw_H) (set : Int) (w : Int) => sw_E G NH SH (d + 2) mX12_pure 4 [some (sw_r 224), some (sw_i set), some (sw_i w), none] [] h (sw_Qi (fun z h' => h0 = h'))) ?_ _ _ _ ?_
  · rintro h1 set_2 w_3 ⟨rfl, j4⟩ ihh1
    try dsimp only at ihh1
    refine sx_iload_n dX12_pure_4 rfl ?_
    refine sx_aload_n dX12_pure_5 rfl ?_
    refine sx_callVi lk_X12_497 cl_12 s_224 (by decide) dX12_pure_6 (vs := []) rfl rfl (Nat.le_of_ble_eq_true rfl) (Nat.le_of_ble_eq_true rfl) rfl (c_X12_lots _ hI.1) (fun x6 h5 ph5 => ?_)
    obtain ⟨rfl, p_x6⟩ := ph5
    refine sx_icmp_ge (tgt := 50) dX12_pure_9 (by decide) (fun c7 => ?_) (fun c7 => ?_)
    ·
      refine sx_iload_n dX12_pure_50 rfl ?_
      refine sx_ireturn dX12_pure_51 ?_
      exact ⟨_, rfl, rfl⟩
    ·
      obtain ⟨wr1, wr2, wr3, wr4⟩ := mC_w hB.1 hJ (w := w_3) (by omega) (by omega)
      have r34 : (0 : Int) ≤ h0 234 (6 * h0 224 36 + w_3).toNat ∧ h0 234 (6 * h0 224 36 + w_3).toNat ≤ 20 := hJ 234 _
      refine sx_iconst dX12_pure_12 ⟨by decide, by decide⟩ ?_
      refine sx_istore_n dX12_pure_13 (by decide) ?_
      refine sx_loop1 (fun (h : sw_H) (n : Int) => (h0 = h) ∧ (0 ≤ n) ∧ (n ≤ h0 234 (6 * h0 224 36 + w_3).toNat)) (fun (h : sw_H) (n : Int) => (60 - n).toNat) (fun (h : sw_H) (n : Int) => sw_E G NH SH (d + 2) mX12_pure 14 [some (sw_r 224), some (sw_i set_2), some (sw_i w_3), some (sw_i n)] [] h (sw_Qi (fun z h' => h0 = h'))) ?_ _ _ ?_
      · rintro h8 n_9 ⟨rfl, j10, j11⟩ ihh8
        try dsimp only at ihh8
        refine sx_aload_n dX12_pure_14 rfl ?_
        refine sx_iload_n dX12_pure_15 rfl ?_
        refine sx_iload_n dX12_pure_16 rfl ?_
        refine sx_callVz lk_X12_591 cl_12 s_224 (by decide) dX12_pure_17 (vs := [_, _]) rfl rfl (Nat.le_of_ble_eq_true rfl) (Nat.le_of_ble_eq_true rfl) rfl (c_X12_isShuffle _ hI.1 _ _ (hB.1) (by omega) (by omega)) (fun x13 h12 zx13 ph12 => ?_)
        obtain ⟨rfl, p_x13⟩ := ph12
        refine sx_if_eq (tgt := 29) dX12_pure_20 (by decide) (fun c14 => ?_) (fun c14 => ?_)
        ·
          clear zx13
          refine sx_iload_n dX12_pure_29 rfl ?_
          refine sx_aload_n dX12_pure_30 rfl ?_
          refine sx_iload_n dX12_pure_31 rfl ?_
          refine sx_callVi lk_X12_546 cl_12 s_224 (by decide) dX12_pure_32 (vs := [_]) rfl rfl (Nat.le_of_ble_eq_true rfl) (Nat.le_of_ble_eq_true rfl) rfl (c_X12_manyIn _ hI.1 _ (by first | omega | (rw [Int.tmod_eq_emod_of_nonneg (by omega)]; omega) | (rw [Int.tdiv_eq_ediv_of_nonneg (by omega)]; omega))) (fun x16 h15 ph15 => ?_)
          obtain ⟨rfl, p_x16⟩ := ph15
          refine sx_icmp_ne (tgt := 44) dX12_pure_35 (by decide) (fun c17 => ?_) (fun c17 => ?_)
          ·
            refine sx_iinc dX12_pure_44 (by decide) rfl ?_
            rw [sw_w_id (by omega) (by omega)]
            refine sx_goto (tgt := 4) dX12_pure_47 (by decide) ?_
            refine sx_kill 3 ?_
            exact ihh1 _ _ _ ⟨rfl, by omega⟩ (by exact sy_dec (by omega) (by omega))
          ·
            refine sx_iload_n dX12_pure_38 rfl ?_
            refine sx_iconst dX12_pure_39 ⟨by decide, by decide⟩ ?_
            refine sx_iload_n dX12_pure_40 rfl ?_
            refine sx_ishl dX12_pure_41 ?_
            refine sx_ior dX12_pure_42 ?_
            refine sy_top (fun v18 ev18 => ?_)
            refine sx_istore_n dX12_pure_43 (by decide) ?_
            refine sx_iinc dX12_pure_44 (by decide) rfl ?_
            rw [sw_w_id (by omega) (by omega)]
            refine sx_goto (tgt := 4) dX12_pure_47 (by decide) ?_
            refine sx_kill 3 ?_
            exact ihh1 _ _ _ ⟨rfl, by omega⟩ (by exact sy_dec (by omega) (by omega))
        ·
          have vx13 : x13 = 1 := by rcases zx13 with q | q; (exact absurd q c14); exact q
          clear zx13
          refine sx_iinc dX12_pure_23 (by decide) rfl ?_
          rw [sw_w_id (by omega) (by omega)]
          refine sx_goto (tgt := 14) dX12_pure_26 (by decide) ?_
          exact ihh8 _ _ ⟨rfl, by omega, by omega⟩ (by exact sy_dec (by omega) (by omega))
      · exact ⟨rfl, by omega, by omega⟩
  · exact ⟨rfl, by omega⟩
set_option maxRecDepth 20000 in
set_option maxHeartbeats 4000000 in
theorem c_X12_odds {G : sw_G} (d : Nat) {h0 : sw_H} (hJ : mI h0) (y1 y2 : Int) (hB : mB h0)  : sw_E G NH SH (d + 1) mX12_odds 0 [some (sw_r 224), some (sw_i y1), some (sw_i y2), none, none] [] h0 (sw_Qi (fun z h' => h0 = h')) := by
  have hI : mK (prW [] []) h0 h0 := mK.refl hJ
  refine sx_iload_n dX12_odds_0 rfl ?_
  refine sx_iconst dX12_odds_1 ⟨by decide, by decide⟩ ?_
  refine sx_iconst dX12_odds_2 ⟨by decide, by decide⟩ ?_
  refine sx_callSz lk_X12_500 dX12_odds_3 (vs := [_, _, _]) rfl rfl (Nat.le_of_ble_eq_true rfl) (Nat.le_of_ble_eq_true rfl) rfl (c_X12_isIn _ hI.1 _ _ _) (fun x2 h1 zx2 ph1 => ?_)
  obtain ⟨rfl, p_x2⟩ := ph1
  refine sx_if_eq (tgt := 18) dX12_odds_6 (by decide) (fun c3 => ?_) (fun c3 => ?_)
  ·
    replace p_x2 := mt p_x2.mpr (show ¬ (x2 = 1) by rw [c3]; decide)
    clear zx2
    refine sx_iconst dX12_odds_18 ⟨by decide, by decide⟩ ?_
    refine sx_ireturn dX12_odds_19 ?_
    exact ⟨_, rfl, rfl⟩
  ·
    have vx2 : x2 = 1 := by rcases zx2 with q | q; (exact absurd q c3); exact q
    replace p_x2 := p_x2.mp vx2
    clear zx2
    refine sx_iload_n dX12_odds_9 rfl ?_
    refine sx_iconst dX12_odds_10 ⟨by decide, by decide⟩ ?_
    refine sx_iconst dX12_odds_11 ⟨by decide, by decide⟩ ?_
    refine sx_callSz lk_X12_500 dX12_odds_12 (vs := [_, _, _]) rfl rfl (Nat.le_of_ble_eq_true rfl) (Nat.le_of_ble_eq_true rfl) rfl (c_X12_isIn _ hI.1 _ _ _) (fun x5 h4 zx5 ph4 => ?_)
    obtain ⟨rfl, p_x5⟩ := ph4
    refine sx_if_ne (tgt := 20) dX12_odds_15 (by decide) (fun c6 => ?_) (fun c6 => ?_)
    ·
      have vx5 : x5 = 1 := by rcases zx5 with q | q; (exact absurd q c6); exact q
      replace p_x5 := p_x5.mp vx5
      clear zx5
      have rf : (0 : Int) ≤ h0 230 (h0 224 36).toNat ∧ h0 230 (h0 224 36).toNat ≤ 100 := hJ 230 _
      have pa := pw_100a (a := 100 - h0 230 (h0 224 36).toNat) (n := y1) (by omega) (by omega) (by omega)
      have pb := pw_100 (n := y1) (by omega) (by omega)
      refine sx_bipush dX12_odds_20 ⟨by decide, by decide, by decide⟩ ?_
      refine sx_aload_n dX12_odds_22 rfl ?_
      refine sx_getS (k := 14) (t := 230) cl_12 fl_X12_30 dX12_odds_23 s_224 (by decide) rfl (by decide) ?_
      refine sx_aload_n dX12_odds_26 rfl ?_
      refine sx_getI (k := 36) cl_12 fl_X12_349 dX12_odds_27 s_224 (by decide) rfl (by decide) ?_
      have r7 : (0 : Int) ≤ h0 224 36 ∧ h0 224 36 ≤ 1 := hI.1 224 36
      refine sy_iaF (F := fun z => (0 : Int) ≤ z ∧ z ≤ 100) dX12_odds_30 s_230 (by decide) (by decide) ⟨by omega, by omega⟩ (hI.1 230 _) (fun r8 => ?_)
      refine sx_isub dX12_odds_31 ?_
      refine sy_topw (by omega) ?_
      refine sx_iload_n dX12_odds_32 rfl ?_
      refine sx_callSi lk_X12_598 dX12_odds_33 (vs := [_, _]) rfl rfl (Nat.le_of_ble_eq_true rfl) (Nat.le_of_ble_eq_true rfl) rfl (c_X12_power _ hI.1 _ _ (by first | omega | (rw [Int.tmod_eq_emod_of_nonneg (by omega)]; omega) | (rw [Int.tdiv_eq_ediv_of_nonneg (by omega)]; omega))) (fun x10 h9 ph9 => ?_)
      obtain ⟨rfl, p_x10⟩ := ph9
      refine sx_istore_n dX12_odds_36 (by decide) ?_
      refine sx_bipush dX12_odds_37 ⟨by decide, by decide, by decide⟩ ?_
      refine sx_iload_n dX12_odds_39 rfl ?_
      refine sx_callSi lk_X12_598 dX12_odds_40 (vs := [_, _]) rfl rfl (Nat.le_of_ble_eq_true rfl) (Nat.le_of_ble_eq_true rfl) rfl (c_X12_power _ hI.1 _ _ (by first | omega | (rw [Int.tmod_eq_emod_of_nonneg (by omega)]; omega) | (rw [Int.tdiv_eq_ediv_of_nonneg (by omega)]; omega))) (fun x12 h11 ph11 => ?_)
      obtain ⟨rfl, p_x12⟩ := ph11
      refine sx_istore dX12_odds_43 (by decide) ?_
      refine sx_iload_n dX12_odds_45 rfl ?_
      refine sx_if_ne (tgt := 53) dX12_odds_46 (by decide) (fun c13 => ?_) (fun c13 => ?_)
      ·
        refine sx_iload dX12_odds_53 rfl ?_
        refine sx_iload dX12_odds_55 rfl ?_
        refine sx_iload_n dX12_odds_57 rfl ?_
        refine sx_callSi lk_X12_676 dX12_odds_58 (vs := [_, _]) rfl rfl (Nat.le_of_ble_eq_true rfl) (Nat.le_of_ble_eq_true rfl) rfl (c_X12_divisor _ hI.1 _ _ (by first | omega | (rw [Int.tmod_eq_emod_of_nonneg (by omega)]; omega) | (rw [Int.tdiv_eq_ediv_of_nonneg (by omega)]; omega))) (fun x15 h14 ph14 => ?_)
        obtain ⟨rfl, p_x15⟩ := ph14
        refine sx_idiv dX12_odds_61 (by omega) ?_
        refine sx_ireturn dX12_odds_62 ?_
        exact ⟨_, rfl, rfl⟩
      ·
        refine sx_iload_n dX12_odds_49 rfl ?_
        refine sx_goto (tgt := 55) dX12_odds_50 (by decide) ?_
        refine sx_iload dX12_odds_55 rfl ?_
        refine sx_iload_n dX12_odds_57 rfl ?_
        refine sx_callSi lk_X12_676 dX12_odds_58 (vs := [_, _]) rfl rfl (Nat.le_of_ble_eq_true rfl) (Nat.le_of_ble_eq_true rfl) rfl (c_X12_divisor _ hI.1 _ _ (by first | omega | (rw [Int.tmod_eq_emod_of_nonneg (by omega)]; omega) | (rw [Int.tdiv_eq_ediv_of_nonneg (by omega)]; omega))) (fun x17 h16 ph16 => ?_)
        obtain ⟨rfl, p_x17⟩ := ph16
        refine sx_idiv dX12_odds_61 (by omega) ?_
        refine sx_ireturn dX12_odds_62 ?_
        exact ⟨_, rfl, rfl⟩
    ·
      replace p_x5 := mt p_x5.mpr (show ¬ (x5 = 1) by rw [c6]; decide)
      clear zx5
      refine sx_iconst dX12_odds_18 ⟨by decide, by decide⟩ ?_
      refine sx_ireturn dX12_odds_19 ?_
      exact ⟨_, rfl, rfl⟩
set_option maxRecDepth 20000 in
set_option maxHeartbeats 4000000 in
theorem c_X12_seen {G : sw_G} (d : Nat) {h0 : sw_H} (hJ : mI h0) (y1 y2 y3 y4 y5 : Int) (hB : mB h0)  : sw_E G NH SH (d + 1) mX12_seen 0 [some (sw_r 224), some (sw_i y1), some (sw_i y2), some (sw_i y3), some (sw_i y4), some (sw_i y5)] [] h0 (sw_Qi (fun z h' => mK (prW [99] [279, 280, 281, 282, 283, 284, 285]) h0 h' ∧ (mB h') ∧ (h' 224 100 = h0 224 100))) := by
  have hI : mK (prW [99] [279, 280, 281, 282, 283, 284, 285]) h0 h0 := mK.refl hJ
  refine sx_iload_n dX12_seen_0 rfl ?_
  refine sx_iconst dX12_seen_1 ⟨by decide, by decide⟩ ?_
  refine sx_bipush dX12_seen_2 ⟨by decide, by decide, by decide⟩ ?_
  refine sx_callSz lk_X12_500 dX12_seen_4 (vs := [_, _, _]) rfl rfl (Nat.le_of_ble_eq_true rfl) (Nat.le_of_ble_eq_true rfl) rfl (c_X12_isIn _ hI.1 _ _ _) (fun x2 h1 zx2 ph1 => ?_)
  obtain ⟨rfl, p_x2⟩ := ph1
  refine sx_if_eq (tgt := 46) dX12_seen_7 (by decide) (fun c3 => ?_) (fun c3 => ?_)
  ·
    replace p_x2 := mt p_x2.mpr (show ¬ (x2 = 1) by rw [c3]; decide)
    clear zx2
    refine sx_iconst dX12_seen_46 ⟨by decide, by decide⟩ ?_
    refine sx_ireturn dX12_seen_47 ?_
    exact ⟨_, rfl, ⟨hI, mB_mK hI rfl rfl hJ hB, hI.2 224 100 rfl⟩⟩
  ·
    have vx2 : x2 = 1 := by rcases zx2 with q | q; (exact absurd q c3); exact q
    replace p_x2 := p_x2.mp vx2
    clear zx2
    refine sx_iload_n dX12_seen_10 rfl ?_
    refine sx_iconst dX12_seen_11 ⟨by decide, by decide⟩ ?_
    refine sx_bipush dX12_seen_12 ⟨by decide, by decide, by decide⟩ ?_
    refine sx_callSz lk_X12_500 dX12_seen_14 (vs := [_, _, _]) rfl rfl (Nat.le_of_ble_eq_true rfl) (Nat.le_of_ble_eq_true rfl) rfl (c_X12_isIn _ hI.1 _ _ _) (fun x5 h4 zx5 ph4 => ?_)
    obtain ⟨rfl, p_x5⟩ := ph4
    refine sx_if_eq (tgt := 46) dX12_seen_17 (by decide) (fun c6 => ?_) (fun c6 => ?_)
    ·
      replace p_x5 := mt p_x5.mpr (show ¬ (x5 = 1) by rw [c6]; decide)
      clear zx5
      refine sx_iconst dX12_seen_46 ⟨by decide, by decide⟩ ?_
      refine sx_ireturn dX12_seen_47 ?_
      exact ⟨_, rfl, ⟨hI, mB_mK hI rfl rfl hJ hB, hI.2 224 100 rfl⟩⟩
    ·
      have vx5 : x5 = 1 := by rcases zx5 with q | q; (exact absurd q c6); exact q
      replace p_x5 := p_x5.mp vx5
      clear zx5
      refine sx_iload_n dX12_seen_20 rfl ?_
      refine sx_iconst dX12_seen_21 ⟨by decide, by decide⟩ ?_
      refine sx_bipush dX12_seen_22 ⟨by decide, by decide, by decide⟩ ?_
      refine sx_callSz lk_X12_500 dX12_seen_24 (vs := [_, _, _]) rfl rfl (Nat.le_of_ble_eq_true rfl) (Nat.le_of_ble_eq_true rfl) rfl (c_X12_isIn _ hI.1 _ _ _) (fun x8 h7 zx8 ph7 => ?_)
      obtain ⟨rfl, p_x8⟩ := ph7
      refine sx_if_eq (tgt := 46) dX12_seen_27 (by decide) (fun c9 => ?_) (fun c9 => ?_)
      ·
        replace p_x8 := mt p_x8.mpr (show ¬ (x8 = 1) by rw [c9]; decide)
        clear zx8
        refine sx_iconst dX12_seen_46 ⟨by decide, by decide⟩ ?_
        refine sx_ireturn dX12_seen_47 ?_
        exact ⟨_, rfl, ⟨hI, mB_mK hI rfl rfl hJ hB, hI.2 224 100 rfl⟩⟩
      ·
        have vx8 : x8 = 1 := by rcases zx8 with q | q; (exact absurd q c9); exact q
        replace p_x8 := p_x8.mp vx8
        clear zx8
        refine sx_aload_n dX12_seen_30 rfl ?_
        refine sx_getI (k := 99) cl_12 fl_X12_513 dX12_seen_31 s_224 (by decide) rfl (by decide) ?_
        have r10 : (0 : Int) ≤ h0 224 99 ∧ h0 224 99 ≤ 30 := hI.1 224 99
        refine sx_bipush dX12_seen_34 ⟨by decide, by decide, by decide⟩ ?_
        refine sx_icmp_eq (tgt := 46) dX12_seen_36 (by decide) (fun c11 => ?_) (fun c11 => ?_)
        ·
          refine sx_iconst dX12_seen_46 ⟨by decide, by decide⟩ ?_
          refine sx_ireturn dX12_seen_47 ?_
          exact ⟨_, rfl, ⟨hI, mB_mK hI rfl rfl hJ hB, hI.2 224 100 rfl⟩⟩
        ·
          refine sx_aload_n dX12_seen_39 rfl ?_
          refine sx_callVi lk_X12_497 cl_12 s_224 (by decide) dX12_seen_40 (vs := []) rfl rfl (Nat.le_of_ble_eq_true rfl) (Nat.le_of_ble_eq_true rfl) rfl (c_X12_lots _ hI.1) (fun x13 h12 ph12 => ?_)
          obtain ⟨rfl, p_x13⟩ := ph12
          refine sx_if_ne (tgt := 48) dX12_seen_43 (by decide) (fun c14 => ?_) (fun c14 => ?_)
          ·
            refine sx_aload_n dX12_seen_48 rfl ?_
            refine sx_getS (k := 90) (t := 279) cl_12 fl_X12_184 dX12_seen_49 s_224 (by decide) rfl (by decide) ?_
            refine sx_aload_n dX12_seen_52 rfl ?_
            refine sx_getI (k := 99) cl_12 fl_X12_513 dX12_seen_53 s_224 (by decide) rfl (by decide) ?_
            have r15 : (0 : Int) ≤ h0 224 99 ∧ h0 224 99 ≤ 30 := hI.1 224 99
            refine sx_iload_n dX12_seen_56 rfl ?_
            refine sy_iastore dX12_seen_57 s_279 (by decide) (by decide) ⟨by omega, by omega⟩ (fun h16 eh16 => ?_)
            have Ih16 := hI.up eh16 trivial rfl
            have th16_224_99 := eh16.2 (224) 99 (fun q => absurd q.1 (by decide))
            refine sx_aload_n dX12_seen_58 rfl ?_
            refine sx_getS (k := 91) (t := 280) cl_12 fl_X12_187 dX12_seen_59 s_224 (by decide) rfl (by decide) ?_
            refine sx_aload_n dX12_seen_62 rfl ?_
            refine sx_getI (k := 99) cl_12 fl_X12_513 dX12_seen_63 s_224 (by decide) rfl (by decide) ?_
            have r17 : (0 : Int) ≤ h16 224 99 ∧ h16 224 99 ≤ 30 := Ih16.1 224 99
            refine sx_iload_n dX12_seen_66 rfl ?_
            refine sy_iastore dX12_seen_67 s_280 (by decide) (by decide) ⟨by omega, by omega⟩ (fun h18 eh18 => ?_)
            have Ih18 := Ih16.up eh18 trivial rfl
            have th18_224_99 := eh18.2 (224) 99 (fun q => absurd q.1 (by decide))
            refine sx_aload_n dX12_seen_68 rfl ?_
            refine sx_getS (k := 92) (t := 281) cl_12 fl_X12_190 dX12_seen_69 s_224 (by decide) rfl (by decide) ?_
            refine sx_aload_n dX12_seen_72 rfl ?_
            refine sx_getI (k := 99) cl_12 fl_X12_513 dX12_seen_73 s_224 (by decide) rfl (by decide) ?_
            have r19 : (0 : Int) ≤ h18 224 99 ∧ h18 224 99 ≤ 30 := Ih18.1 224 99
            refine sx_iload_n dX12_seen_76 rfl ?_
            refine sy_iastore dX12_seen_77 s_281 (by decide) (by decide) ⟨by omega, by omega⟩ (fun h20 eh20 => ?_)
            have Ih20 := Ih18.up eh20 trivial rfl
            have th20_224_99 := eh20.2 (224) 99 (fun q => absurd q.1 (by decide))
            refine sx_aload_n dX12_seen_78 rfl ?_
            refine sx_getS (k := 93) (t := 282) cl_12 fl_X12_193 dX12_seen_79 s_224 (by decide) rfl (by decide) ?_
            refine sx_aload_n dX12_seen_82 rfl ?_
            refine sx_getI (k := 99) cl_12 fl_X12_513 dX12_seen_83 s_224 (by decide) rfl (by decide) ?_
            have r21 : (0 : Int) ≤ h20 224 99 ∧ h20 224 99 ≤ 30 := Ih20.1 224 99
            refine sx_iload dX12_seen_86 rfl ?_
            refine sy_iastore dX12_seen_88 s_282 (by decide) (by decide) ⟨by omega, by omega⟩ (fun h22 eh22 => ?_)
            have Ih22 := Ih20.up eh22 trivial rfl
            have th22_224_99 := eh22.2 (224) 99 (fun q => absurd q.1 (by decide))
            refine sx_aload_n dX12_seen_89 rfl ?_
            refine sx_getS (k := 94) (t := 283) cl_12 fl_X12_196 dX12_seen_90 s_224 (by decide) rfl (by decide) ?_
            refine sx_aload_n dX12_seen_93 rfl ?_
            refine sx_getI (k := 99) cl_12 fl_X12_513 dX12_seen_94 s_224 (by decide) rfl (by decide) ?_
            have r23 : (0 : Int) ≤ h22 224 99 ∧ h22 224 99 ≤ 30 := Ih22.1 224 99
            refine sx_iload dX12_seen_97 rfl ?_
            refine sx_if_eq (tgt := 106) dX12_seen_99 (by decide) (fun c24 => ?_) (fun c24 => ?_)
            ·
              refine sx_iconst dX12_seen_106 ⟨by decide, by decide⟩ ?_
              refine sy_iastore dX12_seen_107 s_283 (by decide) (by decide) ⟨by omega, by omega⟩ (fun h25 eh25 => ?_)
              have Ih25 := Ih22.up eh25 trivial rfl
              have th25_224_99 := eh25.2 (224) 99 (fun q => absurd q.1 (by decide))
              refine sx_aload_n dX12_seen_108 rfl ?_
              refine sx_getS (k := 95) (t := 284) cl_12 fl_X12_199 dX12_seen_109 s_224 (by decide) rfl (by decide) ?_
              refine sx_aload_n dX12_seen_112 rfl ?_
              refine sx_getI (k := 99) cl_12 fl_X12_513 dX12_seen_113 s_224 (by decide) rfl (by decide) ?_
              have r26 : (0 : Int) ≤ h25 224 99 ∧ h25 224 99 ≤ 30 := Ih25.1 224 99
              refine sx_aload_n dX12_seen_116 rfl ?_
              refine sx_getI (k := 100) cl_12 fl_X12_679 dX12_seen_117 s_224 (by decide) rfl (by decide) ?_
              have r27 : (0 : Int) ≤ h25 224 100 ∧ h25 224 100 ≤ 100000 := Ih25.1 224 100
              refine sy_iastore dX12_seen_120 s_284 (by decide) (by decide) ⟨by omega, by omega⟩ (fun h28 eh28 => ?_)
              have Ih28 := Ih25.up eh28 trivial rfl
              have th28_224_99 := eh28.2 (224) 99 (fun q => absurd q.1 (by decide))
              refine sx_aload_n dX12_seen_121 rfl ?_
              refine sx_getS (k := 96) (t := 285) cl_12 fl_X12_202 dX12_seen_122 s_224 (by decide) rfl (by decide) ?_
              refine sx_aload_n dX12_seen_125 rfl ?_
              refine sx_getI (k := 99) cl_12 fl_X12_513 dX12_seen_126 s_224 (by decide) rfl (by decide) ?_
              have r29 : (0 : Int) ≤ h28 224 99 ∧ h28 224 99 ≤ 30 := Ih28.1 224 99
              refine sx_iconst dX12_seen_129 ⟨by decide, by decide⟩ ?_
              refine sy_iastore dX12_seen_130 s_285 (by decide) (by decide) ⟨by omega, by omega⟩ (fun h30 eh30 => ?_)
              have Ih30 := Ih28.up eh30 trivial rfl
              have th30_224_99 := eh30.2 (224) 99 (fun q => absurd q.1 (by decide))
              refine sx_aload_n dX12_seen_131 rfl ?_
              refine sx_dupr dX12_seen_132 ?_
              refine sx_getI (k := 99) cl_12 fl_X12_513 dX12_seen_133 s_224 (by decide) rfl (by decide) ?_
              have r31 : (0 : Int) ≤ h30 224 99 ∧ h30 224 99 ≤ 30 := Ih30.1 224 99
              refine sx_iconst dX12_seen_136 ⟨by decide, by decide⟩ ?_
              refine sx_iadd dX12_seen_137 ?_
              refine sy_topw (by omega) ?_
              refine sy_putI (k := 99) cl_12 fl_X12_513 dX12_seen_138 s_224 (by decide) rfl (by decide) rfl rfl (fun h32 eh32 => ?_)
              have Ih32 := Ih30.up eh32 (show (0 : Int) ≤ _ ∧ _ ≤ (30 : Int) from ⟨by omega, by omega⟩) rfl
              have th32_224_99 := eh32.1
              refine sx_aload_n dX12_seen_141 rfl ?_
              refine sx_getI (k := 99) cl_12 fl_X12_513 dX12_seen_142 s_224 (by decide) rfl (by decide) ?_
              have r33 : (0 : Int) ≤ h32 224 99 ∧ h32 224 99 ≤ 30 := Ih32.1 224 99
              refine sx_iconst dX12_seen_145 ⟨by decide, by decide⟩ ?_
              refine sx_isub dX12_seen_146 ?_
              refine sy_topw (by omega) ?_
              refine sx_ireturn dX12_seen_147 ?_
              exact ⟨_, rfl, ⟨Ih32, mB_mK Ih32 rfl rfl hJ hB, Ih32.2 224 100 rfl⟩⟩
            ·
              refine sx_iconst dX12_seen_102 ⟨by decide, by decide⟩ ?_
              refine sx_goto (tgt := 107) dX12_seen_103 (by decide) ?_
              refine sy_iastore dX12_seen_107 s_283 (by decide) (by decide) ⟨by omega, by omega⟩ (fun h34 eh34 => ?_)
              have Ih34 := Ih22.up eh34 trivial rfl
              have th34_224_99 := eh34.2 (224) 99 (fun q => absurd q.1 (by decide))
              refine sx_aload_n dX12_seen_108 rfl ?_
              refine sx_getS (k := 95) (t := 284) cl_12 fl_X12_199 dX12_seen_109 s_224 (by decide) rfl (by decide) ?_
              refine sx_aload_n dX12_seen_112 rfl ?_
              refine sx_getI (k := 99) cl_12 fl_X12_513 dX12_seen_113 s_224 (by decide) rfl (by decide) ?_
              have r35 : (0 : Int) ≤ h34 224 99 ∧ h34 224 99 ≤ 30 := Ih34.1 224 99
              refine sx_aload_n dX12_seen_116 rfl ?_
              refine sx_getI (k := 100) cl_12 fl_X12_679 dX12_seen_117 s_224 (by decide) rfl (by decide) ?_
              have r36 : (0 : Int) ≤ h34 224 100 ∧ h34 224 100 ≤ 100000 := Ih34.1 224 100
              refine sy_iastore dX12_seen_120 s_284 (by decide) (by decide) ⟨by omega, by omega⟩ (fun h37 eh37 => ?_)
              have Ih37 := Ih34.up eh37 trivial rfl
              have th37_224_99 := eh37.2 (224) 99 (fun q => absurd q.1 (by decide))
              refine sx_aload_n dX12_seen_121 rfl ?_
              refine sx_getS (k := 96) (t := 285) cl_12 fl_X12_202 dX12_seen_122 s_224 (by decide) rfl (by decide) ?_
              refine sx_aload_n dX12_seen_125 rfl ?_
              refine sx_getI (k := 99) cl_12 fl_X12_513 dX12_seen_126 s_224 (by decide) rfl (by decide) ?_
              have r38 : (0 : Int) ≤ h37 224 99 ∧ h37 224 99 ≤ 30 := Ih37.1 224 99
              refine sx_iconst dX12_seen_129 ⟨by decide, by decide⟩ ?_
              refine sy_iastore dX12_seen_130 s_285 (by decide) (by decide) ⟨by omega, by omega⟩ (fun h39 eh39 => ?_)
              have Ih39 := Ih37.up eh39 trivial rfl
              have th39_224_99 := eh39.2 (224) 99 (fun q => absurd q.1 (by decide))
              refine sx_aload_n dX12_seen_131 rfl ?_
              refine sx_dupr dX12_seen_132 ?_
              refine sx_getI (k := 99) cl_12 fl_X12_513 dX12_seen_133 s_224 (by decide) rfl (by decide) ?_
              have r40 : (0 : Int) ≤ h39 224 99 ∧ h39 224 99 ≤ 30 := Ih39.1 224 99
              refine sx_iconst dX12_seen_136 ⟨by decide, by decide⟩ ?_
              refine sx_iadd dX12_seen_137 ?_
              refine sy_topw (by omega) ?_
              refine sy_putI (k := 99) cl_12 fl_X12_513 dX12_seen_138 s_224 (by decide) rfl (by decide) rfl rfl (fun h41 eh41 => ?_)
              have Ih41 := Ih39.up eh41 (show (0 : Int) ≤ _ ∧ _ ≤ (30 : Int) from ⟨by omega, by omega⟩) rfl
              have th41_224_99 := eh41.1
              refine sx_aload_n dX12_seen_141 rfl ?_
              refine sx_getI (k := 99) cl_12 fl_X12_513 dX12_seen_142 s_224 (by decide) rfl (by decide) ?_
              have r42 : (0 : Int) ≤ h41 224 99 ∧ h41 224 99 ≤ 30 := Ih41.1 224 99
              refine sx_iconst dX12_seen_145 ⟨by decide, by decide⟩ ?_
              refine sx_isub dX12_seen_146 ?_
              refine sy_topw (by omega) ?_
              refine sx_ireturn dX12_seen_147 ?_
              exact ⟨_, rfl, ⟨Ih41, mB_mK Ih41 rfl rfl hJ hB, Ih41.2 224 100 rfl⟩⟩
          ·
            refine sx_iconst dX12_seen_46 ⟨by decide, by decide⟩ ?_
            refine sx_ireturn dX12_seen_47 ?_
            exact ⟨_, rfl, ⟨hI, mB_mK hI rfl rfl hJ hB, hI.2 224 100 rfl⟩⟩
set_option maxRecDepth 20000 in
set_option maxHeartbeats 4000000 in
theorem c_X12_untell {G : sw_G} (d : Nat) {h0 : sw_H} (hJ : mI h0) (y1 : Int) (hB : mB h0)  : sw_E G NH SH (d + 1) mX12_untell 0 [some (sw_r 224), some (sw_i y1)] [] h0 (sw_Qz (fun z h' => mK (prW [] [285]) h0 h' ∧ (mB h') ∧ (h' 224 100 = h0 224 100))) := by
  have hI : mK (prW [] [285]) h0 h0 := mK.refl hJ
  refine sx_iload_n dX12_untell_0 rfl ?_
  refine sx_iconst dX12_untell_1 ⟨by decide, by decide⟩ ?_
  refine sx_aload_n dX12_untell_2 rfl ?_
  refine sx_getI (k := 99) cl_12 fl_X12_513 dX12_untell_3 s_224 (by decide) rfl (by decide) ?_
  have r1 : (0 : Int) ≤ h0 224 99 ∧ h0 224 99 ≤ 30 := hI.1 224 99
  refine sx_iconst dX12_untell_6 ⟨by decide, by decide⟩ ?_
  refine sx_isub dX12_untell_7 ?_
  refine sy_topw (by omega) ?_
  refine sx_callSz lk_X12_500 dX12_untell_8 (vs := [_, _, _]) rfl rfl (Nat.le_of_ble_eq_true rfl) (Nat.le_of_ble_eq_true rfl) rfl (c_X12_isIn _ hI.1 _ _ _) (fun x3 h2 zx3 ph2 => ?_)
  obtain ⟨rfl, p_x3⟩ := ph2
  refine sx_if_eq (tgt := 23) dX12_untell_11 (by decide) (fun c4 => ?_) (fun c4 => ?_)
  ·
    replace p_x3 := mt p_x3.mpr (show ¬ (x3 = 1) by rw [c4]; decide)
    clear zx3
    refine sx_iconst dX12_untell_23 ⟨by decide, by decide⟩ ?_
    refine sx_ireturn dX12_untell_24 ?_
    exact ⟨_, rfl, by omega, ⟨hI, mB_mK hI rfl rfl hJ hB, hI.2 224 100 rfl⟩⟩
  ·
    have vx3 : x3 = 1 := by rcases zx3 with q | q; (exact absurd q c4); exact q
    replace p_x3 := p_x3.mp vx3
    clear zx3
    refine sx_aload_n dX12_untell_14 rfl ?_
    refine sx_getS (k := 96) (t := 285) cl_12 fl_X12_202 dX12_untell_15 s_224 (by decide) rfl (by decide) ?_
    refine sx_iload_n dX12_untell_18 rfl ?_
    refine sx_iaload dX12_untell_19 s_285 (by decide) (by decide) ⟨by omega, by omega⟩ ?_
    refine sx_if_lt (tgt := 25) dX12_untell_20 (by decide) (fun c5 => ?_) (fun c5 => ?_)
    ·
      refine sx_aload_n dX12_untell_25 rfl ?_
      refine sx_getS (k := 96) (t := 285) cl_12 fl_X12_202 dX12_untell_26 s_224 (by decide) rfl (by decide) ?_
      refine sx_iload_n dX12_untell_29 rfl ?_
      refine sx_aload_n dX12_untell_30 rfl ?_
      refine sx_getI (k := 100) cl_12 fl_X12_679 dX12_untell_31 s_224 (by decide) rfl (by decide) ?_
      have r6 : (0 : Int) ≤ h0 224 100 ∧ h0 224 100 ≤ 100000 := hI.1 224 100
      refine sy_iastore dX12_untell_34 s_285 (by decide) (by decide) ⟨by omega, by omega⟩ (fun h7 eh7 => ?_)
      have Ih7 := hI.up eh7 trivial rfl
      have th7_224_99 := eh7.2 (224) 99 (fun q => absurd q.1 (by decide))
      refine sx_iconst dX12_untell_35 ⟨by decide, by decide⟩ ?_
      refine sx_ireturn dX12_untell_36 ?_
      exact ⟨_, rfl, by omega, ⟨Ih7, mB_mK Ih7 rfl rfl hJ hB, Ih7.2 224 100 rfl⟩⟩
    ·
      refine sx_iconst dX12_untell_23 ⟨by decide, by decide⟩ ?_
      refine sx_ireturn dX12_untell_24 ?_
      exact ⟨_, rfl, by omega, ⟨hI, mB_mK hI rfl rfl hJ hB, hI.2 224 100 rfl⟩⟩
set_option maxRecDepth 20000 in
set_option maxHeartbeats 4000000 in
theorem c_X12_later {G : sw_G} (d : Nat) {h0 : sw_H} (hJ : mI h0) (y1 : Int) (hB : mB h0)  : sw_E G NH SH (d + 1) mX12_later 0 [some (sw_r 224), some (sw_i y1)] [] h0 (sw_Qi (fun z h' => mK (prW [100] []) h0 h' ∧ (mB h') ∧ ((0 ≤ y1 ∧ y1 ≤ 1000 ∧ h0 224 100 + y1 ≤ 100000 → z = h0 224 100 + y1 ∧ h' 224 100 = h0 224 100 + y1) ∧ (¬ (0 ≤ y1 ∧ y1 ≤ 1000 ∧ h0 224 100 + y1 ≤ 100000) → z = -1 ∧ h' 224 100 = h0 224 100)))) := by
  have hI : mK (prW [100] []) h0 h0 := mK.refl hJ
  refine sx_iload_n dX12_later_0 rfl ?_
  refine sx_iconst dX12_later_1 ⟨by decide, by decide⟩ ?_
  refine sx_sipush dX12_later_2 ⟨by decide, by decide, by decide⟩ ?_
  refine sx_callSz lk_X12_500 dX12_later_5 (vs := [_, _, _]) rfl rfl (Nat.le_of_ble_eq_true rfl) (Nat.le_of_ble_eq_true rfl) rfl (c_X12_isIn _ hI.1 _ _ _) (fun x2 h1 zx2 ph1 => ?_)
  obtain ⟨rfl, p_x2⟩ := ph1
  refine sx_if_eq (tgt := 23) dX12_later_8 (by decide) (fun c3 => ?_) (fun c3 => ?_)
  ·
    replace p_x2 := mt p_x2.mpr (show ¬ (x2 = 1) by rw [c3]; decide)
    clear zx2
    refine sx_iconst dX12_later_23 ⟨by decide, by decide⟩ ?_
    refine sx_ireturn dX12_later_24 ?_
    exact ⟨_, rfl, ⟨hI, mB_mK hI rfl rfl hJ hB, by omega⟩⟩
  ·
    have vx2 : x2 = 1 := by rcases zx2 with q | q; (exact absurd q c3); exact q
    replace p_x2 := p_x2.mp vx2
    clear zx2
    refine sx_aload_n dX12_later_11 rfl ?_
    refine sx_getI (k := 100) cl_12 fl_X12_679 dX12_later_12 s_224 (by decide) rfl (by decide) ?_
    have r4 : (0 : Int) ≤ h0 224 100 ∧ h0 224 100 ≤ 100000 := hI.1 224 100
    refine sx_iload_n dX12_later_15 rfl ?_
    refine sx_iadd dX12_later_16 ?_
    refine sy_topw (by omega) ?_
    refine sx_ldcw kc_X12_682 ⟨by decide, by decide⟩ dX12_later_17 ?_
    refine sx_icmp_le (tgt := 25) dX12_later_20 (by decide) (fun c5 => ?_) (fun c5 => ?_)
    ·
      refine sx_aload_n dX12_later_25 rfl ?_
      refine sx_dupr dX12_later_26 ?_
      refine sx_getI (k := 100) cl_12 fl_X12_679 dX12_later_27 s_224 (by decide) rfl (by decide) ?_
      have r6 : (0 : Int) ≤ h0 224 100 ∧ h0 224 100 ≤ 100000 := hI.1 224 100
      refine sx_iload_n dX12_later_30 rfl ?_
      refine sx_iadd dX12_later_31 ?_
      refine sy_topw (by omega) ?_
      refine sy_putI (k := 100) cl_12 fl_X12_679 dX12_later_32 s_224 (by decide) rfl (by decide) rfl rfl (fun h7 eh7 => ?_)
      have Ih7 := hI.up eh7 (show (0 : Int) ≤ _ ∧ _ ≤ (100000 : Int) from ⟨by omega, by omega⟩) rfl
      have th7_224_100 := eh7.1
      refine sx_aload_n dX12_later_35 rfl ?_
      refine sx_getI (k := 100) cl_12 fl_X12_679 dX12_later_36 s_224 (by decide) rfl (by decide) ?_
      have r8 : (0 : Int) ≤ h7 224 100 ∧ h7 224 100 ≤ 100000 := Ih7.1 224 100
      refine sx_ireturn dX12_later_39 ?_
      exact ⟨_, rfl, ⟨Ih7, mB_mK Ih7 rfl rfl hJ hB, by omega⟩⟩
    ·
      refine sx_iconst dX12_later_23 ⟨by decide, by decide⟩ ?_
      refine sx_ireturn dX12_later_24 ?_
      exact ⟨_, rfl, ⟨hI, mB_mK hI rfl rfl hJ hB, by omega⟩⟩
set_option maxRecDepth 20000 in
set_option maxHeartbeats 4000000 in
theorem c_X12_image {G : sw_G} (d : Nat) {h0 : sw_H} (hJ : mI h0) (y1 : Int) (hB : mB h0)  : sw_E G NH SH (d + 1) mX12_image 0 [some (sw_r 224), some (sw_i y1), none] [] h0 (sw_Qi (fun z h' => mK (prW [] [288, 289]) h0 h' ∧ (mB h') ∧ (h' 224 100 = h0 224 100))) := by
  have hI : mK (prW [] [288, 289]) h0 h0 := mK.refl hJ
  refine sx_iload_n dX12_image_0 rfl ?_
  refine sx_iconst dX12_image_1 ⟨by decide, by decide⟩ ?_
  refine sx_iconst dX12_image_2 ⟨by decide, by decide⟩ ?_
  refine sx_callSz lk_X12_500 dX12_image_3 (vs := [_, _, _]) rfl rfl (Nat.le_of_ble_eq_true rfl) (Nat.le_of_ble_eq_true rfl) rfl (c_X12_isIn _ hI.1 _ _ _) (fun x2 h1 zx2 ph1 => ?_)
  obtain ⟨rfl, p_x2⟩ := ph1
  refine sx_if_ne (tgt := 11) dX12_image_6 (by decide) (fun c3 => ?_) (fun c3 => ?_)
  ·
    have vx2 : x2 = 1 := by rcases zx2 with q | q; (exact absurd q c3); exact q
    replace p_x2 := p_x2.mp vx2
    clear zx2
    refine sx_iconst dX12_image_11 ⟨by decide, by decide⟩ ?_
    refine sx_istore_n dX12_image_12 (by decide) ?_
    refine sx_loop1 (fun (h : sw_H) (k : Int) => (mK (prW [] [288, 289]) h0 h) ∧ (0 ≤ k)) (fun (h : sw_H) (k : Int) => (34 - k).toNat) (fun (h : sw_H) (k : Int) => sw_E G NH SH (d + 1) mX12_image 13 [some (sw_r 224), some (sw_i y1), some (sw_i k)] [] h (sw_Qi (fun z h' => mK (prW [] [288, 289]) h0 h' ∧ (mB h') ∧ (h' 224 100 = h0 224 100)))) ?_ _ _ ?_
    · rintro h4 k_5 ⟨Ih4, j6⟩ ihh4
      try dsimp only at ihh4
      refine sx_iload_n dX12_image_13 rfl ?_
      refine sx_bipush dX12_image_14 ⟨by decide, by decide, by decide⟩ ?_
      refine sx_icmp_ge (tgt := 42) dX12_image_16 (by decide) (fun c7 => ?_) (fun c7 => ?_)
      ·
        refine sx_aload_n dX12_image_42 rfl ?_
        refine sx_getS (k := 102) (t := 289) cl_12 fl_X12_215 dX12_image_43 s_224 (by decide) rfl (by decide) ?_
        refine sx_iload_n dX12_image_46 rfl ?_
        refine sx_iconst dX12_image_47 ⟨by decide, by decide⟩ ?_
        refine sy_zastore dX12_image_48 s_289 (by decide) (by decide) ⟨by omega, by omega⟩ (by exact Or.inr rfl) (fun h8 eh8 => ?_)
        have Ih8 := Ih4.up eh8 trivial rfl
        have th8_224_71 := eh8.2 (224) 71 (fun q => absurd q.1 (by decide))
        have th8_224_73 := eh8.2 (224) 73 (fun q => absurd q.1 (by decide))
        have th8_224_74 := eh8.2 (224) 74 (fun q => absurd q.1 (by decide))
        have th8_224_85 := eh8.2 (224) 85 (fun q => absurd q.1 (by decide))
        have th8_224_100 := eh8.2 (224) 100 (fun q => absurd q.1 (by decide))
        refine sx_aload_n dX12_image_49 rfl ?_
        refine sx_getS (k := 61) (t := 261) cl_12 fl_X12_124 dX12_image_50 s_224 (by decide) rfl (by decide) ?_
        refine sx_bipush dX12_image_53 ⟨by decide, by decide, by decide⟩ ?_
        refine sy_iaK (k := 30) (F := fun z => (0 : Int) ≤ z ∧ z ≤ 24) rfl dX12_image_55 s_261 (by decide) (by decide) ⟨by decide, by decide⟩ (Ih8.1 261 30) (fun r9 => ?_)
        refine sx_ireturn dX12_image_56 ?_
        exact ⟨_, rfl, ⟨Ih8, mB_mK Ih8 rfl rfl hJ hB, Ih8.2 224 100 rfl⟩⟩
      ·
        refine sx_aload_n dX12_image_19 rfl ?_
        refine sx_getS (k := 101) (t := 288) cl_12 fl_X12_212 dX12_image_20 s_224 (by decide) rfl (by decide) ?_
        refine sx_bipush dX12_image_23 ⟨by decide, by decide, by decide⟩ ?_
        refine sx_iload_n dX12_image_25 rfl ?_
        refine sx_imul dX12_image_26 ?_
        refine sy_topw (by omega) ?_
        refine sx_iload_n dX12_image_27 rfl ?_
        refine sx_iadd dX12_image_28 ?_
        refine sy_topw (by omega) ?_
        refine sx_aload_n dX12_image_29 rfl ?_
        refine sx_getS (k := 61) (t := 261) cl_12 fl_X12_124 dX12_image_30 s_224 (by decide) rfl (by decide) ?_
        refine sx_iload_n dX12_image_33 rfl ?_
        refine sx_iaload dX12_image_34 s_261 (by decide) (by decide) ⟨by omega, by omega⟩ ?_
        refine sy_iastore dX12_image_35 s_288 (by decide) (by decide) ⟨by omega, by omega⟩ (fun h10 eh10 => ?_)
        have Ih10 := Ih4.up eh10 (by exact omc_all_eq (Or.inl rfl) (Or.inr (Or.inr rfl)) (by omega) (Ih4.1 261 _)) rfl
        have th10_224_71 := eh10.2 (224) 71 (fun q => absurd q.1 (by decide))
        have th10_224_73 := eh10.2 (224) 73 (fun q => absurd q.1 (by decide))
        have th10_224_74 := eh10.2 (224) 74 (fun q => absurd q.1 (by decide))
        have th10_224_85 := eh10.2 (224) 85 (fun q => absurd q.1 (by decide))
        have th10_224_100 := eh10.2 (224) 100 (fun q => absurd q.1 (by decide))
        refine sx_iinc dX12_image_36 (by decide) rfl ?_
        rw [sw_w_id (by omega) (by omega)]
        refine sx_goto (tgt := 13) dX12_image_39 (by decide) ?_
        exact ihh4 _ _ ⟨Ih10, by omega⟩ (by exact sy_dec (by omega) (by omega))
    · exact ⟨hI, by omega⟩
  ·
    replace p_x2 := mt p_x2.mpr (show ¬ (x2 = 1) by rw [c3]; decide)
    clear zx2
    refine sx_iconst dX12_image_9 ⟨by decide, by decide⟩ ?_
    refine sx_ireturn dX12_image_10 ?_
    exact ⟨_, rfl, ⟨hI, mB_mK hI rfl rfl hJ hB, hI.2 224 100 rfl⟩⟩
set_option maxRecDepth 20000 in
set_option maxHeartbeats 4000000 in
theorem c_X12_back {G : sw_G} (d : Nat) {h0 : sw_H} (hJ : mI h0) (y1 : Int) (hB : mB h0)  : sw_E G NH SH (d + 1) mX12_back 0 [some (sw_r 224), some (sw_i y1), none] [] h0 (sw_Qi (fun z h' => mK (prW [73, 74] [261]) h0 h' ∧ (mB h') ∧ (h' 224 100 = h0 224 100))) := by
  have hI : mK (prW [73, 74] [261]) h0 h0 := mK.refl hJ
  refine sx_iload_n dX12_back_0 rfl ?_
  refine sx_iconst dX12_back_1 ⟨by decide, by decide⟩ ?_
  refine sx_iconst dX12_back_2 ⟨by decide, by decide⟩ ?_
  refine sx_callSz lk_X12_500 dX12_back_3 (vs := [_, _, _]) rfl rfl (Nat.le_of_ble_eq_true rfl) (Nat.le_of_ble_eq_true rfl) rfl (c_X12_isIn _ hI.1 _ _ _) (fun x2 h1 zx2 ph1 => ?_)
  obtain ⟨rfl, p_x2⟩ := ph1
  refine sx_if_eq (tgt := 18) dX12_back_6 (by decide) (fun c3 => ?_) (fun c3 => ?_)
  ·
    replace p_x2 := mt p_x2.mpr (show ¬ (x2 = 1) by rw [c3]; decide)
    clear zx2
    refine sx_iconst dX12_back_18 ⟨by decide, by decide⟩ ?_
    refine sx_ireturn dX12_back_19 ?_
    exact ⟨_, rfl, ⟨hI, ⟨mC_mK hI rfl rfl hJ hB.1, by have := hB.2; omega, by have := hB.2; omega, by have := hB.2; omega⟩, hI.2 224 100 rfl⟩⟩
  ·
    have vx2 : x2 = 1 := by rcases zx2 with q | q; (exact absurd q c3); exact q
    replace p_x2 := p_x2.mp vx2
    clear zx2
    refine sx_aload_n dX12_back_9 rfl ?_
    refine sx_getS (k := 102) (t := 289) cl_12 fl_X12_215 dX12_back_10 s_224 (by decide) rfl (by decide) ?_
    refine sx_iload_n dX12_back_13 rfl ?_
    refine sx_zaload dX12_back_14 s_289 (by decide) (by decide) ⟨by omega, by omega⟩ (fun b4 b5 => ?_)
    refine sx_if_ne (tgt := 20) dX12_back_15 (by decide) (fun c6 => ?_) (fun c6 => ?_)
    ·
      refine sx_iconst dX12_back_20 ⟨by decide, by decide⟩ ?_
      refine sx_istore_n dX12_back_21 (by decide) ?_
      refine sx_loop1 (fun (h : sw_H) (k : Int) => (mK (prW [73, 74] [261]) h0 h) ∧ (0 ≤ k) ∧ (h 224 71 = h0 224 71) ∧ (h 224 85 = h0 224 85)) (fun (h : sw_H) (k : Int) => (34 - k).toNat) (fun (h : sw_H) (k : Int) => sw_E G NH SH (d + 1) mX12_back 22 [some (sw_r 224), some (sw_i y1), some (sw_i k)] [] h (sw_Qi (fun z h' => mK (prW [73, 74] [261]) h0 h' ∧ (mB h') ∧ (h' 224 100 = h0 224 100)))) ?_ _ _ ?_
      · rintro h7 k_8 ⟨Ih7, j9, j10, j11⟩ ihh7
        try dsimp only at ihh7
        refine sx_iload_n dX12_back_22 rfl ?_
        refine sx_bipush dX12_back_23 ⟨by decide, by decide, by decide⟩ ?_
        refine sx_icmp_ge (tgt := 51) dX12_back_25 (by decide) (fun c12 => ?_) (fun c12 => ?_)
        ·
          refine sx_aload_n dX12_back_51 rfl ?_
          refine sx_iconst dX12_back_52 ⟨by decide, by decide⟩ ?_
          refine sy_putI (k := 73) cl_12 fl_X12_507 dX12_back_53 s_224 (by decide) rfl (by decide) rfl rfl (fun h13 eh13 => ?_)
          have Ih13 := Ih7.up eh13 (show (0 : Int) ≤ _ ∧ _ ≤ (40 : Int) from ⟨by omega, by omega⟩) rfl
          have th13_224_71 := eh13.2 (224) 71 (by decide)
          have th13_224_73 := eh13.1
          have th13_224_74 := eh13.2 (224) 74 (by decide)
          have th13_224_85 := eh13.2 (224) 85 (by decide)
          have th13_224_100 := eh13.2 (224) 100 (by decide)
          refine sx_aload_n dX12_back_56 rfl ?_
          refine sx_iconst dX12_back_57 ⟨by decide, by decide⟩ ?_
          refine sy_putI (k := 74) cl_12 fl_X12_510 dX12_back_58 s_224 (by decide) rfl (by decide) rfl rfl (fun h14 eh14 => ?_)
          have Ih14 := Ih13.up eh14 (show (0 : Int) ≤ _ ∧ _ ≤ (40 : Int) from ⟨by omega, by omega⟩) rfl
          have th14_224_71 := eh14.2 (224) 71 (by decide)
          have th14_224_73 := eh14.2 (224) 73 (by decide)
          have th14_224_74 := eh14.1
          have th14_224_85 := eh14.2 (224) 85 (by decide)
          have th14_224_100 := eh14.2 (224) 100 (by decide)
          refine sx_aload_n dX12_back_61 rfl ?_
          refine sx_getS (k := 61) (t := 261) cl_12 fl_X12_124 dX12_back_62 s_224 (by decide) rfl (by decide) ?_
          refine sx_bipush dX12_back_65 ⟨by decide, by decide, by decide⟩ ?_
          refine sy_iaK (k := 30) (F := fun z => (0 : Int) ≤ z ∧ z ≤ 24) rfl dX12_back_67 s_261 (by decide) (by decide) ⟨by decide, by decide⟩ (Ih14.1 261 30) (fun r15 => ?_)
          refine sx_ireturn dX12_back_68 ?_
          exact ⟨_, rfl, ⟨Ih14, ⟨mC_mK Ih14 rfl rfl hJ hB.1, by have := hB.2; omega, by have := hB.2; omega, by have := hB.2; omega⟩, Ih14.2 224 100 rfl⟩⟩
        ·
          refine sx_aload_n dX12_back_28 rfl ?_
          refine sx_getS (k := 61) (t := 261) cl_12 fl_X12_124 dX12_back_29 s_224 (by decide) rfl (by decide) ?_
          refine sx_iload_n dX12_back_32 rfl ?_
          refine sx_aload_n dX12_back_33 rfl ?_
          refine sx_getS (k := 101) (t := 288) cl_12 fl_X12_212 dX12_back_34 s_224 (by decide) rfl (by decide) ?_
          refine sx_bipush dX12_back_37 ⟨by decide, by decide, by decide⟩ ?_
          refine sx_iload_n dX12_back_39 rfl ?_
          refine sx_imul dX12_back_40 ?_
          refine sy_topw (by omega) ?_
          refine sx_iload_n dX12_back_41 rfl ?_
          refine sx_iadd dX12_back_42 ?_
          refine sy_topw (by omega) ?_
          refine sx_iaload dX12_back_43 s_288 (by decide) (by decide) ⟨by omega, by omega⟩ ?_
          refine sy_iastore dX12_back_44 s_261 (by decide) (by decide) ⟨by omega, by omega⟩ (fun h16 eh16 => ?_)
          have Ih16 := Ih7.up eh16 (by exact omc_all_eq (Or.inr (Or.inr rfl)) (Or.inl rfl) (by omega) (Ih7.1 288 _)) rfl
          have th16_224_71 := eh16.2 (224) 71 (fun q => absurd q.1 (by decide))
          have th16_224_73 := eh16.2 (224) 73 (fun q => absurd q.1 (by decide))
          have th16_224_74 := eh16.2 (224) 74 (fun q => absurd q.1 (by decide))
          have th16_224_85 := eh16.2 (224) 85 (fun q => absurd q.1 (by decide))
          have th16_224_100 := eh16.2 (224) 100 (fun q => absurd q.1 (by decide))
          refine sx_iinc dX12_back_45 (by decide) rfl ?_
          rw [sw_w_id (by omega) (by omega)]
          refine sx_goto (tgt := 22) dX12_back_48 (by decide) ?_
          exact ihh7 _ _ ⟨Ih16, by omega, by omega, by omega⟩ (by exact sy_dec (by omega) (by omega))
      · exact ⟨hI, by omega, by omega, by omega⟩
    ·
      refine sx_iconst dX12_back_18 ⟨by decide, by decide⟩ ?_
      refine sx_ireturn dX12_back_19 ?_
      exact ⟨_, rfl, ⟨hI, ⟨mC_mK hI rfl rfl hJ hB.1, by have := hB.2; omega, by have := hB.2; omega, by have := hB.2; omega⟩, hI.2 224 100 rfl⟩⟩
set_option maxRecDepth 20000 in
set_option maxHeartbeats 4000000 in
theorem c_X12_feed {G : sw_G} (d : Nat) {h0 : sw_H} (hJ : mI h0) (y1 y2 y3 y4 y5 : Int) (hB : mB h0)  : sw_E G NH SH (d) mX12_feed 0 [some (sw_r 224), some (sw_i y1), some (sw_i y2), some (sw_i y3), some (sw_i y4), some (sw_i y5), none, none] [] h0 (sw_Qi (fun z h' => mK (prW [2] [225]) h0 h' ∧ (mB h') ∧ (h' 224 100 = h0 224 100))) := by
  have hI : mK (prW [2] [225]) h0 h0 := mK.refl hJ
  refine sx_aload_n dX12_feed_0 rfl ?_
  refine sx_getI (k := 2) cl_12 fl_X12_346 dX12_feed_1 s_224 (by decide) rfl (by decide) ?_
  have r1 : (0 : Int) ≤ h0 224 2 ∧ h0 224 2 ≤ 1600 := hI.1 224 2
  refine sx_bipush dX12_feed_4 ⟨by decide, by decide, by decide⟩ ?_
  refine sx_iadd dX12_feed_6 ?_
  refine sy_topw (by omega) ?_
  refine sx_sipush dX12_feed_7 ⟨by decide, by decide, by decide⟩ ?_
  refine sx_icmp_le (tgt := 15) dX12_feed_10 (by decide) (fun c2 => ?_) (fun c2 => ?_)
  ·
    refine sx_iconst dX12_feed_15 ⟨by decide, by decide⟩ ?_
    refine sx_istore dX12_feed_16 (by decide) ?_
    refine sx_loop1 (fun (h : sw_H) (k : Int) => (mK (prW [2] [225]) h0 h) ∧ (0 ≤ k) ∧ (h 224 2 = h0 224 2)) (fun (h : sw_H) (k : Int) => (20 - k).toNat) (fun (h : sw_H) (k : Int) => sw_E G NH SH (d) mX12_feed 18 [some (sw_r 224), some (sw_i y1), some (sw_i y2), some (sw_i y3), some (sw_i y4), some (sw_i y5), some (sw_i k), none] [] h (sw_Qi (fun z h' => mK (prW [2] [225]) h0 h' ∧ (mB h') ∧ (h' 224 100 = h0 224 100)))) ?_ _ _ ?_
    · rintro h3 k_4 ⟨Ih3, j5, j6⟩ ihh3
      try dsimp only at ihh3
      refine sx_iload dX12_feed_18 rfl ?_
      refine sx_bipush dX12_feed_20 ⟨by decide, by decide, by decide⟩ ?_
      refine sx_icmp_ge (tgt := 105) dX12_feed_22 (by decide) (fun c7 => ?_) (fun c7 => ?_)
      ·
        refine sx_aload_n dX12_feed_105 rfl ?_
        refine sx_dupr dX12_feed_106 ?_
        refine sx_getI (k := 2) cl_12 fl_X12_346 dX12_feed_107 s_224 (by decide) rfl (by decide) ?_
        have r8 : (0 : Int) ≤ h3 224 2 ∧ h3 224 2 ≤ 1600 := Ih3.1 224 2
        refine sx_bipush dX12_feed_110 ⟨by decide, by decide, by decide⟩ ?_
        refine sx_iadd dX12_feed_112 ?_
        refine sy_topw (by omega) ?_
        refine sy_putI (k := 2) cl_12 fl_X12_346 dX12_feed_113 s_224 (by decide) rfl (by decide) rfl rfl (fun h9 eh9 => ?_)
        have Ih9 := Ih3.up eh9 (show (0 : Int) ≤ _ ∧ _ ≤ (1600 : Int) from ⟨by omega, by omega⟩) rfl
        have th9_224_2 := eh9.1
        refine sx_aload_n dX12_feed_116 rfl ?_
        refine sx_getI (k := 2) cl_12 fl_X12_346 dX12_feed_117 s_224 (by decide) rfl (by decide) ?_
        have r10 : (0 : Int) ≤ h9 224 2 ∧ h9 224 2 ≤ 1600 := Ih9.1 224 2
        refine sx_ireturn dX12_feed_120 ?_
        exact ⟨_, rfl, ⟨Ih9, mB_mK Ih9 rfl rfl hJ hB, Ih9.2 224 100 rfl⟩⟩
      ·
        refine sx_iload dX12_feed_25 rfl ?_
        refine sx_iconst dX12_feed_27 ⟨by decide, by decide⟩ ?_
        refine sx_icmp_ge (tgt := 35) dX12_feed_28 (by decide) (fun c11 => ?_) (fun c11 => ?_)
        ·
          refine sx_iload dX12_feed_35 rfl ?_
          refine sx_bipush dX12_feed_37 ⟨by decide, by decide, by decide⟩ ?_
          refine sx_icmp_ge (tgt := 46) dX12_feed_39 (by decide) (fun c12 => ?_) (fun c12 => ?_)
          ·
            refine sx_iload dX12_feed_46 rfl ?_
            refine sx_bipush dX12_feed_48 ⟨by decide, by decide, by decide⟩ ?_
            refine sx_icmp_ge (tgt := 57) dX12_feed_50 (by decide) (fun c13 => ?_) (fun c13 => ?_)
            ·
              refine sx_iload dX12_feed_57 rfl ?_
              refine sx_bipush dX12_feed_59 ⟨by decide, by decide, by decide⟩ ?_
              refine sx_icmp_ge (tgt := 69) dX12_feed_61 (by decide) (fun c14 => ?_) (fun c14 => ?_)
              ·
                refine sx_iload dX12_feed_69 rfl ?_
                refine sx_istore dX12_feed_71 (by decide) ?_
                refine sx_aload_n dX12_feed_73 rfl ?_
                refine sx_getS (k := 0) (t := 225) cl_12 fl_X12_7 dX12_feed_74 s_224 (by decide) rfl (by decide) ?_
                refine sx_aload_n dX12_feed_77 rfl ?_
                refine sx_getI (k := 2) cl_12 fl_X12_346 dX12_feed_78 s_224 (by decide) rfl (by decide) ?_
                have r15 : (0 : Int) ≤ h3 224 2 ∧ h3 224 2 ≤ 1600 := Ih3.1 224 2
                refine sx_iload dX12_feed_81 rfl ?_
                refine sx_iadd dX12_feed_83 ?_
                refine sy_topw (by omega) ?_
                refine sx_iload dX12_feed_84 rfl ?_
                refine sx_bipush dX12_feed_86 ⟨by decide, by decide, by decide⟩ ?_
                refine sx_bipush dX12_feed_88 ⟨by decide, by decide, by decide⟩ ?_
                refine sx_iload dX12_feed_90 rfl ?_
                refine sx_iconst dX12_feed_92 ⟨by decide, by decide⟩ ?_
                refine sx_iand dX12_feed_93 ?_
                refine sx_imul dX12_feed_94 ?_
                refine sx_isub dX12_feed_95 ?_
                refine sx_ishr dX12_feed_96 ?_
                refine sx_i2b dX12_feed_97 ?_
                refine sy_bastore dX12_feed_98 s_225 (by decide) (by decide) ⟨by omega, by omega⟩ (by exact b8_rng _) (fun h16 eh16 => ?_)
                have Ih16 := Ih3.up eh16 trivial rfl
                have th16_224_2 := eh16.2 (224) 2 (fun q => absurd q.1 (by decide))
                refine sx_iinc dX12_feed_99 (by decide) rfl ?_
                rw [sw_w_id (by omega) (by omega)]
                refine sx_goto (tgt := 18) dX12_feed_102 (by decide) ?_
                refine sx_kill 7 ?_
                exact ihh3 _ _ ⟨Ih16, by omega, by omega⟩ (by exact sy_dec (by omega) (by omega))
              ·
                refine sx_iload dX12_feed_64 rfl ?_
                refine sx_goto (tgt := 71) dX12_feed_66 (by decide) ?_
                refine sx_istore dX12_feed_71 (by decide) ?_
                refine sx_aload_n dX12_feed_73 rfl ?_
                refine sx_getS (k := 0) (t := 225) cl_12 fl_X12_7 dX12_feed_74 s_224 (by decide) rfl (by decide) ?_
                refine sx_aload_n dX12_feed_77 rfl ?_
                refine sx_getI (k := 2) cl_12 fl_X12_346 dX12_feed_78 s_224 (by decide) rfl (by decide) ?_
                have r17 : (0 : Int) ≤ h3 224 2 ∧ h3 224 2 ≤ 1600 := Ih3.1 224 2
                refine sx_iload dX12_feed_81 rfl ?_
                refine sx_iadd dX12_feed_83 ?_
                refine sy_topw (by omega) ?_
                refine sx_iload dX12_feed_84 rfl ?_
                refine sx_bipush dX12_feed_86 ⟨by decide, by decide, by decide⟩ ?_
                refine sx_bipush dX12_feed_88 ⟨by decide, by decide, by decide⟩ ?_
                refine sx_iload dX12_feed_90 rfl ?_
                refine sx_iconst dX12_feed_92 ⟨by decide, by decide⟩ ?_
                refine sx_iand dX12_feed_93 ?_
                refine sx_imul dX12_feed_94 ?_
                refine sx_isub dX12_feed_95 ?_
                refine sx_ishr dX12_feed_96 ?_
                refine sx_i2b dX12_feed_97 ?_
                refine sy_bastore dX12_feed_98 s_225 (by decide) (by decide) ⟨by omega, by omega⟩ (by exact b8_rng _) (fun h18 eh18 => ?_)
                have Ih18 := Ih3.up eh18 trivial rfl
                have th18_224_2 := eh18.2 (224) 2 (fun q => absurd q.1 (by decide))
                refine sx_iinc dX12_feed_99 (by decide) rfl ?_
                rw [sw_w_id (by omega) (by omega)]
                refine sx_goto (tgt := 18) dX12_feed_102 (by decide) ?_
                refine sx_kill 7 ?_
                exact ihh3 _ _ ⟨Ih18, by omega, by omega⟩ (by exact sy_dec (by omega) (by omega))
            ·
              refine sx_iload_n dX12_feed_53 rfl ?_
              refine sx_goto (tgt := 71) dX12_feed_54 (by decide) ?_
              refine sx_istore dX12_feed_71 (by decide) ?_
              refine sx_aload_n dX12_feed_73 rfl ?_
              refine sx_getS (k := 0) (t := 225) cl_12 fl_X12_7 dX12_feed_74 s_224 (by decide) rfl (by decide) ?_
              refine sx_aload_n dX12_feed_77 rfl ?_
              refine sx_getI (k := 2) cl_12 fl_X12_346 dX12_feed_78 s_224 (by decide) rfl (by decide) ?_
              have r19 : (0 : Int) ≤ h3 224 2 ∧ h3 224 2 ≤ 1600 := Ih3.1 224 2
              refine sx_iload dX12_feed_81 rfl ?_
              refine sx_iadd dX12_feed_83 ?_
              refine sy_topw (by omega) ?_
              refine sx_iload dX12_feed_84 rfl ?_
              refine sx_bipush dX12_feed_86 ⟨by decide, by decide, by decide⟩ ?_
              refine sx_bipush dX12_feed_88 ⟨by decide, by decide, by decide⟩ ?_
              refine sx_iload dX12_feed_90 rfl ?_
              refine sx_iconst dX12_feed_92 ⟨by decide, by decide⟩ ?_
              refine sx_iand dX12_feed_93 ?_
              refine sx_imul dX12_feed_94 ?_
              refine sx_isub dX12_feed_95 ?_
              refine sx_ishr dX12_feed_96 ?_
              refine sx_i2b dX12_feed_97 ?_
              refine sy_bastore dX12_feed_98 s_225 (by decide) (by decide) ⟨by omega, by omega⟩ (by exact b8_rng _) (fun h20 eh20 => ?_)
              have Ih20 := Ih3.up eh20 trivial rfl
              have th20_224_2 := eh20.2 (224) 2 (fun q => absurd q.1 (by decide))
              refine sx_iinc dX12_feed_99 (by decide) rfl ?_
              rw [sw_w_id (by omega) (by omega)]
              refine sx_goto (tgt := 18) dX12_feed_102 (by decide) ?_
              refine sx_kill 7 ?_
              exact ihh3 _ _ ⟨Ih20, by omega, by omega⟩ (by exact sy_dec (by omega) (by omega))
          ·
            refine sx_iload_n dX12_feed_42 rfl ?_
            refine sx_goto (tgt := 71) dX12_feed_43 (by decide) ?_
            refine sx_istore dX12_feed_71 (by decide) ?_
            refine sx_aload_n dX12_feed_73 rfl ?_
            refine sx_getS (k := 0) (t := 225) cl_12 fl_X12_7 dX12_feed_74 s_224 (by decide) rfl (by decide) ?_
            refine sx_aload_n dX12_feed_77 rfl ?_
            refine sx_getI (k := 2) cl_12 fl_X12_346 dX12_feed_78 s_224 (by decide) rfl (by decide) ?_
            have r21 : (0 : Int) ≤ h3 224 2 ∧ h3 224 2 ≤ 1600 := Ih3.1 224 2
            refine sx_iload dX12_feed_81 rfl ?_
            refine sx_iadd dX12_feed_83 ?_
            refine sy_topw (by omega) ?_
            refine sx_iload dX12_feed_84 rfl ?_
            refine sx_bipush dX12_feed_86 ⟨by decide, by decide, by decide⟩ ?_
            refine sx_bipush dX12_feed_88 ⟨by decide, by decide, by decide⟩ ?_
            refine sx_iload dX12_feed_90 rfl ?_
            refine sx_iconst dX12_feed_92 ⟨by decide, by decide⟩ ?_
            refine sx_iand dX12_feed_93 ?_
            refine sx_imul dX12_feed_94 ?_
            refine sx_isub dX12_feed_95 ?_
            refine sx_ishr dX12_feed_96 ?_
            refine sx_i2b dX12_feed_97 ?_
            refine sy_bastore dX12_feed_98 s_225 (by decide) (by decide) ⟨by omega, by omega⟩ (by exact b8_rng _) (fun h22 eh22 => ?_)
            have Ih22 := Ih3.up eh22 trivial rfl
            have th22_224_2 := eh22.2 (224) 2 (fun q => absurd q.1 (by decide))
            refine sx_iinc dX12_feed_99 (by decide) rfl ?_
            rw [sw_w_id (by omega) (by omega)]
            refine sx_goto (tgt := 18) dX12_feed_102 (by decide) ?_
            refine sx_kill 7 ?_
            exact ihh3 _ _ ⟨Ih22, by omega, by omega⟩ (by exact sy_dec (by omega) (by omega))
        ·
          refine sx_iload_n dX12_feed_31 rfl ?_
          refine sx_goto (tgt := 71) dX12_feed_32 (by decide) ?_
          refine sx_istore dX12_feed_71 (by decide) ?_
          refine sx_aload_n dX12_feed_73 rfl ?_
          refine sx_getS (k := 0) (t := 225) cl_12 fl_X12_7 dX12_feed_74 s_224 (by decide) rfl (by decide) ?_
          refine sx_aload_n dX12_feed_77 rfl ?_
          refine sx_getI (k := 2) cl_12 fl_X12_346 dX12_feed_78 s_224 (by decide) rfl (by decide) ?_
          have r23 : (0 : Int) ≤ h3 224 2 ∧ h3 224 2 ≤ 1600 := Ih3.1 224 2
          refine sx_iload dX12_feed_81 rfl ?_
          refine sx_iadd dX12_feed_83 ?_
          refine sy_topw (by omega) ?_
          refine sx_iload dX12_feed_84 rfl ?_
          refine sx_bipush dX12_feed_86 ⟨by decide, by decide, by decide⟩ ?_
          refine sx_bipush dX12_feed_88 ⟨by decide, by decide, by decide⟩ ?_
          refine sx_iload dX12_feed_90 rfl ?_
          refine sx_iconst dX12_feed_92 ⟨by decide, by decide⟩ ?_
          refine sx_iand dX12_feed_93 ?_
          refine sx_imul dX12_feed_94 ?_
          refine sx_isub dX12_feed_95 ?_
          refine sx_ishr dX12_feed_96 ?_
          refine sx_i2b dX12_feed_97 ?_
          refine sy_bastore dX12_feed_98 s_225 (by decide) (by decide) ⟨by omega, by omega⟩ (by exact b8_rng _) (fun h24 eh24 => ?_)
          have Ih24 := Ih3.up eh24 trivial rfl
          have th24_224_2 := eh24.2 (224) 2 (fun q => absurd q.1 (by decide))
          refine sx_iinc dX12_feed_99 (by decide) rfl ?_
          rw [sw_w_id (by omega) (by omega)]
          refine sx_goto (tgt := 18) dX12_feed_102 (by decide) ?_
          refine sx_kill 7 ?_
          exact ihh3 _ _ ⟨Ih24, by omega, by omega⟩ (by exact sy_dec (by omega) (by omega))
    · exact ⟨hI, by omega, by omega⟩
  ·
    refine sx_iconst dX12_feed_13 ⟨by decide, by decide⟩ ?_
    refine sx_ireturn dX12_feed_14 ?_
    exact ⟨_, rfl, ⟨hI, mB_mK hI rfl rfl hJ hB, hI.2 224 100 rfl⟩⟩
set_option maxRecDepth 20000 in
set_option maxHeartbeats 4000000 in
theorem c_X12_end {G : sw_G} (d : Nat) {h0 : sw_H} (hJ : mI h0) (y1 : Int) (hB : mB h0)  : sw_E G NH SH (d) mX12_end 0 [some (sw_r 224), some (sw_i y1)] [] h0 (sw_Qi (fun z h' => mK (prW [2] []) h0 h' ∧ (mB h') ∧ (h' 224 100 = h0 224 100))) := by
  have hI : mK (prW [2] []) h0 h0 := mK.refl hJ
  refine sx_iload_n dX12_end_0 rfl ?_
  refine sx_if_lt (tgt := 12) dX12_end_1 (by decide) (fun c1 => ?_) (fun c1 => ?_)
  ·
    refine sx_iconst dX12_end_12 ⟨by decide, by decide⟩ ?_
    refine sx_ireturn dX12_end_13 ?_
    exact ⟨_, rfl, ⟨hI, mB_mK hI rfl rfl hJ hB, hI.2 224 100 rfl⟩⟩
  ·
    refine sx_iload_n dX12_end_4 rfl ?_
    refine sx_aload_n dX12_end_5 rfl ?_
    refine sx_getI (k := 2) cl_12 fl_X12_346 dX12_end_6 s_224 (by decide) rfl (by decide) ?_
    have r2 : (0 : Int) ≤ h0 224 2 ∧ h0 224 2 ≤ 1600 := hI.1 224 2
    refine sx_icmp_le (tgt := 14) dX12_end_9 (by decide) (fun c3 => ?_) (fun c3 => ?_)
    ·
      refine sx_aload_n dX12_end_14 rfl ?_
      refine sx_iload_n dX12_end_15 rfl ?_
      refine sy_putI (k := 2) cl_12 fl_X12_346 dX12_end_16 s_224 (by decide) rfl (by decide) rfl rfl (fun h4 eh4 => ?_)
      have Ih4 := hI.up eh4 (show (0 : Int) ≤ _ ∧ _ ≤ (1600 : Int) from ⟨by omega, by omega⟩) rfl
      have th4_224_2 := eh4.1
      refine sx_iload_n dX12_end_19 rfl ?_
      refine sx_ireturn dX12_end_20 ?_
      exact ⟨_, rfl, ⟨Ih4, mB_mK Ih4 rfl rfl hJ hB, Ih4.2 224 100 rfl⟩⟩
    ·
      refine sx_iconst dX12_end_12 ⟨by decide, by decide⟩ ?_
      refine sx_ireturn dX12_end_13 ?_
      exact ⟨_, rfl, ⟨hI, mB_mK hI rfl rfl hJ hB, hI.2 224 100 rfl⟩⟩

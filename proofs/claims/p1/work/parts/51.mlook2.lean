set_option maxRecDepth 20000 in
set_option maxHeartbeats 4000000 in
theorem c_X12_look_0 {G : sw_G} (d : Nat) {h0 : sw_H} (hJ : mI h0) (b : Nat) (y2 y3 : Int) (hb : -6 ≤ h0 224 53 ∧ h0 224 53 ≤ 12 ∧ 0 ≤ h0 224 54 ∧ h0 224 54 ≤ 6 ∧ 0 ≤ h0 224 55 ∧ h0 224 55 ≤ 4 ∧ 0 ≤ h0 224 56 ∧ h0 224 56 ≤ 6 ∧ 0 ≤ h0 224 57 ∧ h0 224 57 ≤ 12) (hy : b ≤ 1 ∧ 60 * (1 - (b : Int)) ≤ y3 ∧ y3 < 60 * (1 - (b : Int)) + 60) (hp : 0 ≤ y2 ∧ y2 ≤ 14)  : sw_E G NH SH (d + 2) mX12_look 0 [some (sw_r 224), some (sw_i 0), some (sw_i y2), some (sw_i y3)] [] h0 (sw_Qi (fun z h' => mK (prB b [53, 54, 55, 56, 57, 58] [243, 252, 253, 254, 255, 256, 257, 258, 259, 260]) h0 h' ∧ ((z = 0 ∨ z = 6 ∨ z = 7) ∧ h0 224 56 ≤ h' 224 56 ∧ h0 224 57 ≤ h' 224 57 ∧ (z = 0 → h' 224 56 ≤ 6 ∧ h' 224 57 ≤ 12 ∧ h' 224 54 ≤ 6)) ∧ (z = 0 → h' 224 53 = h0 224 53 - tk y2 + ld y2 ∧ h' 224 54 = h0 224 54 + pu y2 ∧ tk y2 - h0 224 53 ≤ h' 224 56 ∧ h' 224 53 ≤ h' 224 57 ∧ (y2 = 8 → 1 ≤ h0 224 54) ∧ 0 ≤ h' 224 54) ∧ (h' 224 55 = h0 224 55) ∧ (∀ k : Nat, h' 252 k = h0 252 k) ∧ (∀ k : Nat, h' 253 k = h0 253 k) ∧ (∀ k : Nat, h' 254 k = h0 254 k) ∧ (∀ k : Nat, h' 255 k = h0 255 k) ∧ (∀ k : Nat, h' 256 k = h0 256 k) ∧ (∀ k : Nat, h' 257 k = h0 257 k) ∧ ((∀ k : Nat, (k : Int) ≠ y3 → h' 243 k = h0 243 k) ∧ (h0 224 51 ≠ 0 → ∀ k : Nat, h' 243 k = h0 243 k)))) := by
  have hI : mK (prB b [53, 54, 55, 56, 57, 58] [243, 252, 253, 254, 255, 256, 257, 258, 259, 260]) h0 h0 := mK.refl hJ
  have bb : (b : Int) ≤ 1 ∧ 0 ≤ (b : Int) := by omega
  have rl : (0 : Int) ≤ h0 224 52 ∧ h0 224 52 ≤ 1 := hI.1 224 52
  refine sx_aload_n dX12_look_0 rfl ?_
  refine sx_getI (k := 51) cl_12 fl_X12_424 dX12_look_1 s_224 (by decide) rfl (by decide) ?_
  refine sx_if_ne (tgt := 14) dX12_look_4 (by decide) (fun c1 => ?_) (fun c1 => ?_)
  ·
    refine sx_iload_n dX12_look_14 rfl ?_
    refine sx_iconst dX12_look_15 ⟨by decide, by decide⟩ ?_
    refine sx_icmp_gt (tgt := 26) dX12_look_16 (by decide) (fun c2 => ?_) (fun c2 => ?_)
    ·
      exact absurd c2 (by decide)
    ·
      refine sx_aload_n dX12_look_19 rfl ?_
      refine sx_iload_n dX12_look_20 rfl ?_
      refine sx_iload_n dX12_look_21 rfl ?_
      refine sx_callVi lk_X12_428 cl_12 s_224 (by decide) dX12_look_22 (vs := [_, _]) rfl rfl (Nat.le_of_ble_eq_true rfl) (Nat.le_of_ble_eq_true rfl) rfl (c_X12_lookPlain_0 _ hI.1 _ (by omega) (by omega)) (fun x4 h3 ph3 => ?_)
      obtain ⟨Kh3, c_h3, x_h3⟩ := ph3
      have Ih3 := hI.tr Kh3 (prBW_sub rfl rfl rfl)
      have th3_224_51 := Kh3.2 224 51 rfl
      have th3_224_52 := Kh3.2 224 52 rfl
      have th3_224_55 := Kh3.2 224 55 rfl
      refine sx_ireturn dX12_look_25 ?_
      exact ⟨_, rfl, ⟨Ih3, by omega, by omega, by omega, fun k => by rw [show h3 252 k = _ from Kh3.2 252 k rfl], fun k => by rw [show h3 253 k = _ from Kh3.2 253 k rfl], fun k => by rw [show h3 254 k = _ from Kh3.2 254 k rfl], fun k => by rw [show h3 255 k = _ from Kh3.2 255 k rfl], fun k => by rw [show h3 256 k = _ from Kh3.2 256 k rfl], fun k => by rw [show h3 257 k = _ from Kh3.2 257 k rfl], ⟨fun k hk => by rw [show h3 243 k = _ from Kh3.2 243 k rfl]; all_goals (try simp only [Nat.reduceEqDiff, false_and, if_false, true_and]); all_goals (try rw [if_neg (by omega)]), fun q => by first | (exfalso; omega) | exact (fun k => by rw [show h3 243 k = _ from Kh3.2 243 k rfl])⟩⟩⟩
  ·
    refine sx_aload_n dX12_look_7 rfl ?_
    refine sx_getS (k := 27) (t := 243) cl_12 fl_X12_69 dX12_look_8 s_224 (by decide) rfl (by decide) ?_
    refine sx_iload_n dX12_look_11 rfl ?_
    refine sx_iconst dX12_look_12 ⟨by decide, by decide⟩ ?_
    refine sy_iastore dX12_look_13 s_243 (by decide) (by decide) ⟨by omega, by omega⟩ (fun h5 eh5 => ?_)
    have Ih5 := hI.up eh5 (show (-1 : Int) ≤ _ ∧ _ ≤ (119 : Int) from ⟨by omega, by omega⟩) (decide_eq_false (show ¬ (60 * b ≤ _ ∧ _ < 60 * b + 60) by omega))
    have th5_224_51 := eh5.2 (224) 51 (by omega)
    have th5_224_52 := eh5.2 (224) 52 (by omega)
    have th5_224_53 := eh5.2 (224) 53 (by omega)
    have th5_224_54 := eh5.2 (224) 54 (by omega)
    have th5_224_55 := eh5.2 (224) 55 (by omega)
    have th5_224_56 := eh5.2 (224) 56 (by omega)
    have th5_224_57 := eh5.2 (224) 57 (by omega)
    refine sx_iload_n dX12_look_14 rfl ?_
    refine sx_iconst dX12_look_15 ⟨by decide, by decide⟩ ?_
    refine sx_icmp_gt (tgt := 26) dX12_look_16 (by decide) (fun c6 => ?_) (fun c6 => ?_)
    ·
      exact absurd c6 (by decide)
    ·
      refine sx_aload_n dX12_look_19 rfl ?_
      refine sx_iload_n dX12_look_20 rfl ?_
      refine sx_iload_n dX12_look_21 rfl ?_
      refine sx_callVi lk_X12_428 cl_12 s_224 (by decide) dX12_look_22 (vs := [_, _]) rfl rfl (Nat.le_of_ble_eq_true rfl) (Nat.le_of_ble_eq_true rfl) rfl (c_X12_lookPlain_0 _ Ih5.1 _ (by omega) (by omega)) (fun x8 h7 ph7 => ?_)
      obtain ⟨Kh7, c_h7, x_h7⟩ := ph7
      have Ih7 := Ih5.tr Kh7 (prBW_sub rfl rfl rfl)
      have th7_224_51 := Kh7.2 224 51 rfl
      have th7_224_52 := Kh7.2 224 52 rfl
      have th7_224_55 := Kh7.2 224 55 rfl
      refine sx_ireturn dX12_look_25 ?_
      exact ⟨_, rfl, ⟨Ih7, by omega, by omega, by omega, fun k => by rw [show h7 252 k = _ from Kh7.2 252 k rfl, eh5.2 252 k (by omega)], fun k => by rw [show h7 253 k = _ from Kh7.2 253 k rfl, eh5.2 253 k (by omega)], fun k => by rw [show h7 254 k = _ from Kh7.2 254 k rfl, eh5.2 254 k (by omega)], fun k => by rw [show h7 255 k = _ from Kh7.2 255 k rfl, eh5.2 255 k (by omega)], fun k => by rw [show h7 256 k = _ from Kh7.2 256 k rfl, eh5.2 256 k (by omega)], fun k => by rw [show h7 257 k = _ from Kh7.2 257 k rfl, eh5.2 257 k (by omega)], ⟨fun k hk => by rw [show h7 243 k = _ from Kh7.2 243 k rfl, eh5.at 243 k]; all_goals (try simp only [Nat.reduceEqDiff, false_and, if_false, true_and]); all_goals (try rw [if_neg (by omega)]), fun q => by first | (exfalso; omega) | exact (fun k => by rw [show h7 243 k = _ from Kh7.2 243 k rfl, eh5.at 243 k])⟩⟩⟩
set_option maxRecDepth 20000 in
set_option maxHeartbeats 4000000 in
theorem c_X12_look_1 {G : sw_G} (d : Nat) {h0 : sw_H} (hJ : mI h0) (b : Nat) (y2 y3 : Int) (hb : -6 ≤ h0 224 53 ∧ h0 224 53 ≤ 12 ∧ 0 ≤ h0 224 54 ∧ h0 224 54 ≤ 6 ∧ 0 ≤ h0 224 55 ∧ h0 224 55 ≤ 4 ∧ 0 ≤ h0 224 56 ∧ h0 224 56 ≤ 6 ∧ 0 ≤ h0 224 57 ∧ h0 224 57 ≤ 12) (hy : b ≤ 1 ∧ 60 * (1 - (b : Int)) ≤ y3 ∧ y3 < 60 * (1 - (b : Int)) + 60) (hp : 0 ≤ y2)  : sw_E G NH SH (d + 2) mX12_look 0 [some (sw_r 224), some (sw_i 1), some (sw_i y2), some (sw_i y3)] [] h0 (sw_Qi (fun z h' => mK (prB b [53, 54, 55, 56, 57, 58] [243, 252, 253, 254, 255, 256, 257, 258, 259, 260]) h0 h' ∧ ((z = 0 ∨ z = 6 ∨ z = 7) ∧ h0 224 56 ≤ h' 224 56 ∧ h0 224 57 ≤ h' 224 57 ∧ (z = 0 → h' 224 56 ≤ 6 ∧ h' 224 57 ≤ 12 ∧ h' 224 54 ≤ 6)) ∧ (z = 0 → h' 224 53 = h0 224 53 + 1 ∧ h' 224 54 = h0 224 54 ∧ h' 224 53 ≤ h' 224 57) ∧ (h' 224 55 = h0 224 55) ∧ (∀ k : Nat, h' 252 k = h0 252 k) ∧ (∀ k : Nat, h' 253 k = h0 253 k) ∧ (∀ k : Nat, h' 254 k = h0 254 k) ∧ (∀ k : Nat, h' 255 k = h0 255 k) ∧ (∀ k : Nat, h' 256 k = h0 256 k) ∧ (∀ k : Nat, h' 257 k = h0 257 k) ∧ ((∀ k : Nat, (k : Int) ≠ y3 → h' 243 k = h0 243 k) ∧ (h0 224 51 ≠ 0 → ∀ k : Nat, h' 243 k = h0 243 k)))) := by
  have hI : mK (prB b [53, 54, 55, 56, 57, 58] [243, 252, 253, 254, 255, 256, 257, 258, 259, 260]) h0 h0 := mK.refl hJ
  have bb : (b : Int) ≤ 1 ∧ 0 ≤ (b : Int) := by omega
  have rl : (0 : Int) ≤ h0 224 52 ∧ h0 224 52 ≤ 1 := hI.1 224 52
  refine sx_aload_n dX12_look_0 rfl ?_
  refine sx_getI (k := 51) cl_12 fl_X12_424 dX12_look_1 s_224 (by decide) rfl (by decide) ?_
  refine sx_if_ne (tgt := 14) dX12_look_4 (by decide) (fun c1 => ?_) (fun c1 => ?_)
  ·
    refine sx_iload_n dX12_look_14 rfl ?_
    refine sx_iconst dX12_look_15 ⟨by decide, by decide⟩ ?_
    refine sx_icmp_gt (tgt := 26) dX12_look_16 (by decide) (fun c2 => ?_) (fun c2 => ?_)
    ·
      exact absurd c2 (by decide)
    ·
      refine sx_aload_n dX12_look_19 rfl ?_
      refine sx_iload_n dX12_look_20 rfl ?_
      refine sx_iload_n dX12_look_21 rfl ?_
      refine sx_callVi lk_X12_428 cl_12 s_224 (by decide) dX12_look_22 (vs := [_, _]) rfl rfl (Nat.le_of_ble_eq_true rfl) (Nat.le_of_ble_eq_true rfl) rfl (c_X12_lookPlain_1 _ hI.1 _ (by omega) (by omega)) (fun x4 h3 ph3 => ?_)
      obtain ⟨Kh3, c_h3, x_h3⟩ := ph3
      have Ih3 := hI.tr Kh3 (prBW_sub rfl rfl rfl)
      have th3_224_51 := Kh3.2 224 51 rfl
      have th3_224_52 := Kh3.2 224 52 rfl
      have th3_224_55 := Kh3.2 224 55 rfl
      refine sx_ireturn dX12_look_25 ?_
      exact ⟨_, rfl, ⟨Ih3, by omega, by omega, by omega, fun k => by rw [show h3 252 k = _ from Kh3.2 252 k rfl], fun k => by rw [show h3 253 k = _ from Kh3.2 253 k rfl], fun k => by rw [show h3 254 k = _ from Kh3.2 254 k rfl], fun k => by rw [show h3 255 k = _ from Kh3.2 255 k rfl], fun k => by rw [show h3 256 k = _ from Kh3.2 256 k rfl], fun k => by rw [show h3 257 k = _ from Kh3.2 257 k rfl], ⟨fun k hk => by rw [show h3 243 k = _ from Kh3.2 243 k rfl]; all_goals (try simp only [Nat.reduceEqDiff, false_and, if_false, true_and]); all_goals (try rw [if_neg (by omega)]), fun q => by first | (exfalso; omega) | exact (fun k => by rw [show h3 243 k = _ from Kh3.2 243 k rfl])⟩⟩⟩
  ·
    refine sx_aload_n dX12_look_7 rfl ?_
    refine sx_getS (k := 27) (t := 243) cl_12 fl_X12_69 dX12_look_8 s_224 (by decide) rfl (by decide) ?_
    refine sx_iload_n dX12_look_11 rfl ?_
    refine sx_iconst dX12_look_12 ⟨by decide, by decide⟩ ?_
    refine sy_iastore dX12_look_13 s_243 (by decide) (by decide) ⟨by omega, by omega⟩ (fun h5 eh5 => ?_)
    have Ih5 := hI.up eh5 (show (-1 : Int) ≤ _ ∧ _ ≤ (119 : Int) from ⟨by omega, by omega⟩) (decide_eq_false (show ¬ (60 * b ≤ _ ∧ _ < 60 * b + 60) by omega))
    have th5_224_51 := eh5.2 (224) 51 (by omega)
    have th5_224_52 := eh5.2 (224) 52 (by omega)
    have th5_224_53 := eh5.2 (224) 53 (by omega)
    have th5_224_54 := eh5.2 (224) 54 (by omega)
    have th5_224_55 := eh5.2 (224) 55 (by omega)
    have th5_224_56 := eh5.2 (224) 56 (by omega)
    have th5_224_57 := eh5.2 (224) 57 (by omega)
    refine sx_iload_n dX12_look_14 rfl ?_
    refine sx_iconst dX12_look_15 ⟨by decide, by decide⟩ ?_
    refine sx_icmp_gt (tgt := 26) dX12_look_16 (by decide) (fun c6 => ?_) (fun c6 => ?_)
    ·
      exact absurd c6 (by decide)
    ·
      refine sx_aload_n dX12_look_19 rfl ?_
      refine sx_iload_n dX12_look_20 rfl ?_
      refine sx_iload_n dX12_look_21 rfl ?_
      refine sx_callVi lk_X12_428 cl_12 s_224 (by decide) dX12_look_22 (vs := [_, _]) rfl rfl (Nat.le_of_ble_eq_true rfl) (Nat.le_of_ble_eq_true rfl) rfl (c_X12_lookPlain_1 _ Ih5.1 _ (by omega) (by omega)) (fun x8 h7 ph7 => ?_)
      obtain ⟨Kh7, c_h7, x_h7⟩ := ph7
      have Ih7 := Ih5.tr Kh7 (prBW_sub rfl rfl rfl)
      have th7_224_51 := Kh7.2 224 51 rfl
      have th7_224_52 := Kh7.2 224 52 rfl
      have th7_224_55 := Kh7.2 224 55 rfl
      refine sx_ireturn dX12_look_25 ?_
      exact ⟨_, rfl, ⟨Ih7, by omega, by omega, by omega, fun k => by rw [show h7 252 k = _ from Kh7.2 252 k rfl, eh5.2 252 k (by omega)], fun k => by rw [show h7 253 k = _ from Kh7.2 253 k rfl, eh5.2 253 k (by omega)], fun k => by rw [show h7 254 k = _ from Kh7.2 254 k rfl, eh5.2 254 k (by omega)], fun k => by rw [show h7 255 k = _ from Kh7.2 255 k rfl, eh5.2 255 k (by omega)], fun k => by rw [show h7 256 k = _ from Kh7.2 256 k rfl, eh5.2 256 k (by omega)], fun k => by rw [show h7 257 k = _ from Kh7.2 257 k rfl, eh5.2 257 k (by omega)], ⟨fun k hk => by rw [show h7 243 k = _ from Kh7.2 243 k rfl, eh5.at 243 k]; all_goals (try simp only [Nat.reduceEqDiff, false_and, if_false, true_and]); all_goals (try rw [if_neg (by omega)]), fun q => by first | (exfalso; omega) | exact (fun k => by rw [show h7 243 k = _ from Kh7.2 243 k rfl, eh5.at 243 k])⟩⟩⟩
set_option maxRecDepth 20000 in
set_option maxHeartbeats 4000000 in
theorem c_X12_look_2 {G : sw_G} (d : Nat) {h0 : sw_H} (hJ : mI h0) (b : Nat) (y2 y3 : Int) (hb : -6 ≤ h0 224 53 ∧ h0 224 53 ≤ 12 ∧ 0 ≤ h0 224 54 ∧ h0 224 54 ≤ 6 ∧ 0 ≤ h0 224 55 ∧ h0 224 55 ≤ 4 ∧ 0 ≤ h0 224 56 ∧ h0 224 56 ≤ 6 ∧ 0 ≤ h0 224 57 ∧ h0 224 57 ≤ 12) (hy : b ≤ 1 ∧ 60 * (1 - (b : Int)) ≤ y3 ∧ y3 < 60 * (1 - (b : Int)) + 60) (hp : 0 ≤ y2 ∧ y2 < 6 ∧ 0 ≤ h0 235 (6 * h0 224 52 + y2).toNat ∧ h0 235 (6 * h0 224 52 + y2).toNat ≤ 6 ∧ -12 ≤ h0 236 (6 * h0 224 52 + y2).toNat ∧ h0 236 (6 * h0 224 52 + y2).toNat ≤ 12 ∧ 0 ≤ h0 237 (6 * h0 224 52 + y2).toNat ∧ h0 237 (6 * h0 224 52 + y2).toNat ≤ 12 ∧ 0 ≤ h0 235 (6 * h0 224 52 + y2).toNat + h0 236 (6 * h0 224 52 + y2).toNat)  : sw_E G NH SH (d + 2) mX12_look 0 [some (sw_r 224), some (sw_i 2), some (sw_i y2), some (sw_i y3)] [] h0 (sw_Qi (fun z h' => mK (prB b [53, 54, 55, 56, 57, 58] [243, 252, 253, 254, 255, 256, 257, 258, 259, 260]) h0 h' ∧ ((z = 0 ∨ z = 6 ∨ z = 7) ∧ h0 224 56 ≤ h' 224 56 ∧ h0 224 57 ≤ h' 224 57 ∧ (z = 0 → h' 224 56 ≤ 6 ∧ h' 224 57 ≤ 12 ∧ h' 224 54 ≤ 6)) ∧ (z = 0 → h' 224 53 = h0 224 53 + h0 236 (6 * h0 224 52 + y2).toNat ∧ h' 224 54 = h0 224 54 ∧ h0 235 (6 * h0 224 52 + y2).toNat - h0 224 53 ≤ h' 224 56 ∧ h0 224 53 + h0 237 (6 * h0 224 52 + y2).toNat ≤ h' 224 57 ∧ h' 224 53 ≤ h' 224 57) ∧ (h' 224 55 = h0 224 55) ∧ (∀ k : Nat, h' 252 k = h0 252 k) ∧ (∀ k : Nat, h' 253 k = h0 253 k) ∧ (∀ k : Nat, h' 254 k = h0 254 k) ∧ (∀ k : Nat, h' 255 k = h0 255 k) ∧ (∀ k : Nat, h' 256 k = h0 256 k) ∧ (∀ k : Nat, h' 257 k = h0 257 k) ∧ ((∀ k : Nat, (k : Int) ≠ y3 → h' 243 k = h0 243 k) ∧ (h0 224 51 ≠ 0 → ∀ k : Nat, h' 243 k = h0 243 k)))) := by
  have hI : mK (prB b [53, 54, 55, 56, 57, 58] [243, 252, 253, 254, 255, 256, 257, 258, 259, 260]) h0 h0 := mK.refl hJ
  have bb : (b : Int) ≤ 1 ∧ 0 ≤ (b : Int) := by omega
  have rl : (0 : Int) ≤ h0 224 52 ∧ h0 224 52 ≤ 1 := hI.1 224 52
  refine sx_aload_n dX12_look_0 rfl ?_
  refine sx_getI (k := 51) cl_12 fl_X12_424 dX12_look_1 s_224 (by decide) rfl (by decide) ?_
  refine sx_if_ne (tgt := 14) dX12_look_4 (by decide) (fun c1 => ?_) (fun c1 => ?_)
  ·
    refine sx_iload_n dX12_look_14 rfl ?_
    refine sx_iconst dX12_look_15 ⟨by decide, by decide⟩ ?_
    refine sx_icmp_gt (tgt := 26) dX12_look_16 (by decide) (fun c2 => ?_) (fun c2 => ?_)
    ·
      exact absurd c2 (by decide)
    ·
      refine sx_aload_n dX12_look_19 rfl ?_
      refine sx_iload_n dX12_look_20 rfl ?_
      refine sx_iload_n dX12_look_21 rfl ?_
      refine sx_callVi lk_X12_428 cl_12 s_224 (by decide) dX12_look_22 (vs := [_, _]) rfl rfl (Nat.le_of_ble_eq_true rfl) (Nat.le_of_ble_eq_true rfl) rfl (c_X12_lookPlain_2 _ hI.1 _ (by omega) (by rw [hI.2 224 52 rfl, hI.2 235 _ rfl, hI.2 236 _ rfl, hI.2 237 _ rfl]; omega)) (fun x4 h3 ph3 => ?_)
      obtain ⟨Kh3, c_h3, x_h3⟩ := ph3
      have Ih3 := hI.tr Kh3 (prBW_sub rfl rfl rfl)
      have th3_224_51 := Kh3.2 224 51 rfl
      have th3_224_52 := Kh3.2 224 52 rfl
      have th3_224_55 := Kh3.2 224 55 rfl
      rw [show h0 224 52 = h0 224 52 from hI.2 224 52 rfl, show ∀ k, h0 236 k = h0 236 k from fun k => hI.2 236 k rfl, show ∀ k, h0 235 k = h0 235 k from fun k => hI.2 235 k rfl, show ∀ k, h0 237 k = h0 237 k from fun k => hI.2 237 k rfl] at x_h3
      refine sx_ireturn dX12_look_25 ?_
      exact ⟨_, rfl, ⟨Ih3, by omega, by omega, by omega, fun k => by rw [show h3 252 k = _ from Kh3.2 252 k rfl], fun k => by rw [show h3 253 k = _ from Kh3.2 253 k rfl], fun k => by rw [show h3 254 k = _ from Kh3.2 254 k rfl], fun k => by rw [show h3 255 k = _ from Kh3.2 255 k rfl], fun k => by rw [show h3 256 k = _ from Kh3.2 256 k rfl], fun k => by rw [show h3 257 k = _ from Kh3.2 257 k rfl], ⟨fun k hk => by rw [show h3 243 k = _ from Kh3.2 243 k rfl]; all_goals (try simp only [Nat.reduceEqDiff, false_and, if_false, true_and]); all_goals (try rw [if_neg (by omega)]), fun q => by first | (exfalso; omega) | exact (fun k => by rw [show h3 243 k = _ from Kh3.2 243 k rfl])⟩⟩⟩
  ·
    refine sx_aload_n dX12_look_7 rfl ?_
    refine sx_getS (k := 27) (t := 243) cl_12 fl_X12_69 dX12_look_8 s_224 (by decide) rfl (by decide) ?_
    refine sx_iload_n dX12_look_11 rfl ?_
    refine sx_iconst dX12_look_12 ⟨by decide, by decide⟩ ?_
    refine sy_iastore dX12_look_13 s_243 (by decide) (by decide) ⟨by omega, by omega⟩ (fun h5 eh5 => ?_)
    have Ih5 := hI.up eh5 (show (-1 : Int) ≤ _ ∧ _ ≤ (119 : Int) from ⟨by omega, by omega⟩) (decide_eq_false (show ¬ (60 * b ≤ _ ∧ _ < 60 * b + 60) by omega))
    have th5_224_51 := eh5.2 (224) 51 (by omega)
    have th5_224_52 := eh5.2 (224) 52 (by omega)
    have th5_224_53 := eh5.2 (224) 53 (by omega)
    have th5_224_54 := eh5.2 (224) 54 (by omega)
    have th5_224_55 := eh5.2 (224) 55 (by omega)
    have th5_224_56 := eh5.2 (224) 56 (by omega)
    have th5_224_57 := eh5.2 (224) 57 (by omega)
    refine sx_iload_n dX12_look_14 rfl ?_
    refine sx_iconst dX12_look_15 ⟨by decide, by decide⟩ ?_
    refine sx_icmp_gt (tgt := 26) dX12_look_16 (by decide) (fun c6 => ?_) (fun c6 => ?_)
    ·
      exact absurd c6 (by decide)
    ·
      refine sx_aload_n dX12_look_19 rfl ?_
      refine sx_iload_n dX12_look_20 rfl ?_
      refine sx_iload_n dX12_look_21 rfl ?_
      refine sx_callVi lk_X12_428 cl_12 s_224 (by decide) dX12_look_22 (vs := [_, _]) rfl rfl (Nat.le_of_ble_eq_true rfl) (Nat.le_of_ble_eq_true rfl) rfl (c_X12_lookPlain_2 _ Ih5.1 _ (by omega) (by rw [Ih5.2 224 52 rfl, Ih5.2 235 _ rfl, Ih5.2 236 _ rfl, Ih5.2 237 _ rfl]; omega)) (fun x8 h7 ph7 => ?_)
      obtain ⟨Kh7, c_h7, x_h7⟩ := ph7
      have Ih7 := Ih5.tr Kh7 (prBW_sub rfl rfl rfl)
      have th7_224_51 := Kh7.2 224 51 rfl
      have th7_224_52 := Kh7.2 224 52 rfl
      have th7_224_55 := Kh7.2 224 55 rfl
      rw [show h5 224 52 = h0 224 52 from Ih5.2 224 52 rfl, show ∀ k, h5 236 k = h0 236 k from fun k => Ih5.2 236 k rfl, show ∀ k, h5 235 k = h0 235 k from fun k => Ih5.2 235 k rfl, show ∀ k, h5 237 k = h0 237 k from fun k => Ih5.2 237 k rfl] at x_h7
      refine sx_ireturn dX12_look_25 ?_
      exact ⟨_, rfl, ⟨Ih7, by omega, by omega, by omega, fun k => by rw [show h7 252 k = _ from Kh7.2 252 k rfl, eh5.2 252 k (by omega)], fun k => by rw [show h7 253 k = _ from Kh7.2 253 k rfl, eh5.2 253 k (by omega)], fun k => by rw [show h7 254 k = _ from Kh7.2 254 k rfl, eh5.2 254 k (by omega)], fun k => by rw [show h7 255 k = _ from Kh7.2 255 k rfl, eh5.2 255 k (by omega)], fun k => by rw [show h7 256 k = _ from Kh7.2 256 k rfl, eh5.2 256 k (by omega)], fun k => by rw [show h7 257 k = _ from Kh7.2 257 k rfl, eh5.2 257 k (by omega)], ⟨fun k hk => by rw [show h7 243 k = _ from Kh7.2 243 k rfl, eh5.at 243 k]; all_goals (try simp only [Nat.reduceEqDiff, false_and, if_false, true_and]); all_goals (try rw [if_neg (by omega)]), fun q => by first | (exfalso; omega) | exact (fun k => by rw [show h7 243 k = _ from Kh7.2 243 k rfl, eh5.at 243 k])⟩⟩⟩
set_option maxRecDepth 20000 in
set_option maxHeartbeats 4000000 in
theorem c_X12_look_3 {G : sw_G} (d : Nat) {h0 : sw_H} (hJ : mI h0) (b : Nat) (y2 y3 : Int) (hb : -6 ≤ h0 224 53 ∧ h0 224 53 ≤ 12 ∧ 0 ≤ h0 224 54 ∧ h0 224 54 ≤ 6 ∧ 0 ≤ h0 224 55 ∧ h0 224 55 ≤ 4 ∧ 0 ≤ h0 224 56 ∧ h0 224 56 ≤ 6 ∧ 0 ≤ h0 224 57 ∧ h0 224 57 ≤ 12 ∧ h0 224 55 ≤ 3) (hy : b ≤ 1 ∧ 60 * (1 - (b : Int)) ≤ y3 ∧ y3 < 60 * (1 - (b : Int)) + 60)  : sw_E G NH SH (d + 2) mX12_look 0 [some (sw_r 224), some (sw_i 3), some (sw_i y2), some (sw_i y3)] [] h0 (sw_Qi (fun z h' => mK (prB b [53, 54, 55, 56, 57, 58] [243, 252, 253, 254, 255, 256, 257, 258, 259, 260]) h0 h' ∧ ((z = 0 ∨ z = 6 ∨ z = 7) ∧ h0 224 56 ≤ h' 224 56 ∧ h0 224 57 ≤ h' 224 57 ∧ (z = 0 → h' 224 56 ≤ 6 ∧ h' 224 57 ≤ 12 ∧ h' 224 54 ≤ 6)) ∧ (h' 224 53 = h0 224 53 - 1 ∧ h' 224 54 = h0 224 54 ∧ -(h' 224 53) ≤ h' 224 56) ∧ (h' 224 55 = h0 224 55 + 1) ∧ (∀ k : Nat, h' 252 k = if (k : Int) = h0 224 55 + 1 then 3 else h0 252 k) ∧ (∀ k : Nat, h' 253 k = if (k : Int) = h0 224 55 + 1 then y3 else h0 253 k) ∧ (∀ k : Nat, h' 254 k = if (k : Int) = h0 224 55 + 1 then h' 224 53 else h0 254 k) ∧ (∀ k : Nat, h' 255 k = if (k : Int) = h0 224 55 + 1 then h' 224 54 else h0 255 k) ∧ (∀ k : Nat, h' 256 k = h0 256 k) ∧ (∀ k : Nat, h' 257 k = h0 257 k) ∧ ((∀ k : Nat, (k : Int) ≠ y3 → h' 243 k = h0 243 k) ∧ (h0 224 51 ≠ 0 → ∀ k : Nat, h' 243 k = h0 243 k)))) := by
  have hI : mK (prB b [53, 54, 55, 56, 57, 58] [243, 252, 253, 254, 255, 256, 257, 258, 259, 260]) h0 h0 := mK.refl hJ
  have bb : (b : Int) ≤ 1 ∧ 0 ≤ (b : Int) := by omega
  have rl : (0 : Int) ≤ h0 224 52 ∧ h0 224 52 ≤ 1 := hI.1 224 52
  refine sx_aload_n dX12_look_0 rfl ?_
  refine sx_getI (k := 51) cl_12 fl_X12_424 dX12_look_1 s_224 (by decide) rfl (by decide) ?_
  refine sx_if_ne (tgt := 14) dX12_look_4 (by decide) (fun c1 => ?_) (fun c1 => ?_)
  ·
    refine sx_iload_n dX12_look_14 rfl ?_
    refine sx_iconst dX12_look_15 ⟨by decide, by decide⟩ ?_
    refine sx_icmp_gt (tgt := 26) dX12_look_16 (by decide) (fun c2 => ?_) (fun c2 => ?_)
    ·
      refine sx_iload_n dX12_look_26 rfl ?_
      refine sx_iconst dX12_look_27 ⟨by decide, by decide⟩ ?_
      refine sx_icmp_ne (tgt := 58) dX12_look_28 (by decide) (fun c3 => ?_) (fun c3 => ?_)
      ·
        exact absurd c3 (by decide)
      ·
        refine sx_aload_n dX12_look_31 rfl ?_
        refine sx_iconst dX12_look_32 ⟨by decide, by decide⟩ ?_
        refine sx_callVv lk_X12_431 cl_12 s_224 (by decide) dX12_look_33 (vs := [_]) rfl rfl (Nat.le_of_ble_eq_true rfl) (Nat.le_of_ble_eq_true rfl) rfl (c_X12_take _ hI.1 _ (by omega)) (fun h4 ph4 => ?_)
        obtain ⟨Kh4, t_h4⟩ := ph4
        have Ih4 := hI.tr Kh4 (prBW_sub rfl rfl rfl)
        have th4_224_51 := Kh4.2 224 51 rfl
        have th4_224_52 := Kh4.2 224 52 rfl
        have th4_224_54 := Kh4.2 224 54 rfl
        have th4_224_55 := Kh4.2 224 55 rfl
        have th4_224_57 := Kh4.2 224 57 rfl
        refine sx_aload_n dX12_look_36 rfl ?_
        refine sx_getS (k := 49) (t := 259) cl_12 fl_X12_118 dX12_look_37 s_224 (by decide) rfl (by decide) ?_
        refine sx_aload_n dX12_look_40 rfl ?_
        refine sx_getI (k := 55) cl_12 fl_X12_397 dX12_look_41 s_224 (by decide) rfl (by decide) ?_
        refine sx_dup2 dX12_look_44 ?_
        refine sx_iaload dX12_look_45 s_259 (by decide) (by decide) ⟨by omega, by omega⟩ ?_
        refine sx_iconst dX12_look_46 ⟨by decide, by decide⟩ ?_
        refine sx_iadd dX12_look_47 ?_
        refine sy_iastore dX12_look_48 s_259 (by decide) (by decide) ⟨by omega, by omega⟩ (fun h6 eh6 => ?_)
        have Ih6 := Ih4.up eh6 trivial rfl
        have th6_224_51 := eh6.2 (224) 51 (by omega)
        have th6_224_52 := eh6.2 (224) 52 (by omega)
        have th6_224_53 := eh6.2 (224) 53 (by omega)
        have th6_224_54 := eh6.2 (224) 54 (by omega)
        have th6_224_55 := eh6.2 (224) 55 (by omega)
        have th6_224_56 := eh6.2 (224) 56 (by omega)
        have th6_224_57 := eh6.2 (224) 57 (by omega)
        refine sx_aload_n dX12_look_49 rfl ?_
        refine sx_iconst dX12_look_50 ⟨by decide, by decide⟩ ?_
        refine sx_iload_n dX12_look_51 rfl ?_
        refine sx_callVv lk_X12_434 cl_12 s_224 (by decide) dX12_look_52 (vs := [_, _]) rfl rfl (Nat.le_of_ble_eq_true rfl) (Nat.le_of_ble_eq_true rfl) rfl (c_X12_openNew _ Ih6.1 _ _ (by omega)) (fun h7 ph7 => ?_)
        obtain ⟨Kh7, o_h7, a252_h7, a253_h7, a254_h7, a255_h7⟩ := ph7
        have Ih7 := Ih6.tr Kh7 (prBW_sub rfl rfl rfl)
        have th7_224_51 := Kh7.2 224 51 rfl
        have th7_224_52 := Kh7.2 224 52 rfl
        have th7_224_53 := Kh7.2 224 53 rfl
        have th7_224_54 := Kh7.2 224 54 rfl
        have th7_224_56 := Kh7.2 224 56 rfl
        have th7_224_57 := Kh7.2 224 57 rfl
        refine sx_goto (tgt := 214) dX12_look_55 (by decide) ?_
        refine sx_aload_n dX12_look_214 rfl ?_
        refine sx_callVi lk_X12_440 cl_12 s_224 (by decide) dX12_look_215 (vs := []) rfl rfl (Nat.le_of_ble_eq_true rfl) (Nat.le_of_ble_eq_true rfl) rfl (c_X12_tooFar _ Ih7.1) (fun x10 h9 ph9 => ?_)
        obtain ⟨rfl, p_x10⟩ := ph9
        refine sx_ireturn dX12_look_218 ?_
        exact ⟨_, rfl, ⟨Ih7, by omega, by omega, by omega, fun k => by rw [a252_h7 k, eh6.2 252 k (by omega), show h4 252 k = _ from Kh4.2 252 k rfl]; all_goals (try simp only [Nat.reduceEqDiff, false_and, if_false, true_and]); all_goals (by_cases q : (k : Int) = h0 224 55 + 1; (focus first | (rw [if_pos (by omega), if_pos q]; done) | (rw [if_pos (by omega), if_pos q]; omega)); (rw [if_neg (by omega), if_neg q])), fun k => by rw [a253_h7 k, eh6.2 253 k (by omega), show h4 253 k = _ from Kh4.2 253 k rfl]; all_goals (try simp only [Nat.reduceEqDiff, false_and, if_false, true_and]); all_goals (by_cases q : (k : Int) = h0 224 55 + 1; (focus first | (rw [if_pos (by omega), if_pos q]; done) | (rw [if_pos (by omega), if_pos q]; omega)); (rw [if_neg (by omega), if_neg q])), fun k => by rw [a254_h7 k, eh6.2 254 k (by omega), show h4 254 k = _ from Kh4.2 254 k rfl]; all_goals (try simp only [Nat.reduceEqDiff, false_and, if_false, true_and]); all_goals (by_cases q : (k : Int) = h0 224 55 + 1; (focus first | (rw [if_pos (by omega), if_pos q]; done) | (rw [if_pos (by omega), if_pos q]; omega)); (rw [if_neg (by omega), if_neg q])), fun k => by rw [a255_h7 k, eh6.2 255 k (by omega), show h4 255 k = _ from Kh4.2 255 k rfl]; all_goals (try simp only [Nat.reduceEqDiff, false_and, if_false, true_and]); all_goals (by_cases q : (k : Int) = h0 224 55 + 1; (focus first | (rw [if_pos (by omega), if_pos q]; done) | (rw [if_pos (by omega), if_pos q]; omega)); (rw [if_neg (by omega), if_neg q])), fun k => by rw [show h7 256 k = _ from Kh7.2 256 k rfl, eh6.2 256 k (by omega), show h4 256 k = _ from Kh4.2 256 k rfl], fun k => by rw [show h7 257 k = _ from Kh7.2 257 k rfl, eh6.2 257 k (by omega), show h4 257 k = _ from Kh4.2 257 k rfl], ⟨fun k hk => by rw [show h7 243 k = _ from Kh7.2 243 k rfl, eh6.2 243 k (by omega), show h4 243 k = _ from Kh4.2 243 k rfl]; all_goals (try simp only [Nat.reduceEqDiff, false_and, if_false, true_and]); all_goals (try rw [if_neg (by omega)]), fun q => by first | (exfalso; omega) | exact (fun k => by rw [show h7 243 k = _ from Kh7.2 243 k rfl, eh6.2 243 k (by omega), show h4 243 k = _ from Kh4.2 243 k rfl])⟩⟩⟩
    ·
      exact absurd c2 (by decide)
  ·
    refine sx_aload_n dX12_look_7 rfl ?_
    refine sx_getS (k := 27) (t := 243) cl_12 fl_X12_69 dX12_look_8 s_224 (by decide) rfl (by decide) ?_
    refine sx_iload_n dX12_look_11 rfl ?_
    refine sx_iconst dX12_look_12 ⟨by decide, by decide⟩ ?_
    refine sy_iastore dX12_look_13 s_243 (by decide) (by decide) ⟨by omega, by omega⟩ (fun h11 eh11 => ?_)
    have Ih11 := hI.up eh11 (show (-1 : Int) ≤ _ ∧ _ ≤ (119 : Int) from ⟨by omega, by omega⟩) (decide_eq_false (show ¬ (60 * b ≤ _ ∧ _ < 60 * b + 60) by omega))
    have th11_224_51 := eh11.2 (224) 51 (by omega)
    have th11_224_52 := eh11.2 (224) 52 (by omega)
    have th11_224_53 := eh11.2 (224) 53 (by omega)
    have th11_224_54 := eh11.2 (224) 54 (by omega)
    have th11_224_55 := eh11.2 (224) 55 (by omega)
    have th11_224_56 := eh11.2 (224) 56 (by omega)
    have th11_224_57 := eh11.2 (224) 57 (by omega)
    refine sx_iload_n dX12_look_14 rfl ?_
    refine sx_iconst dX12_look_15 ⟨by decide, by decide⟩ ?_
    refine sx_icmp_gt (tgt := 26) dX12_look_16 (by decide) (fun c12 => ?_) (fun c12 => ?_)
    ·
      refine sx_iload_n dX12_look_26 rfl ?_
      refine sx_iconst dX12_look_27 ⟨by decide, by decide⟩ ?_
      refine sx_icmp_ne (tgt := 58) dX12_look_28 (by decide) (fun c13 => ?_) (fun c13 => ?_)
      ·
        exact absurd c13 (by decide)
      ·
        refine sx_aload_n dX12_look_31 rfl ?_
        refine sx_iconst dX12_look_32 ⟨by decide, by decide⟩ ?_
        refine sx_callVv lk_X12_431 cl_12 s_224 (by decide) dX12_look_33 (vs := [_]) rfl rfl (Nat.le_of_ble_eq_true rfl) (Nat.le_of_ble_eq_true rfl) rfl (c_X12_take _ Ih11.1 _ (by omega)) (fun h14 ph14 => ?_)
        obtain ⟨Kh14, t_h14⟩ := ph14
        have Ih14 := Ih11.tr Kh14 (prBW_sub rfl rfl rfl)
        have th14_224_51 := Kh14.2 224 51 rfl
        have th14_224_52 := Kh14.2 224 52 rfl
        have th14_224_54 := Kh14.2 224 54 rfl
        have th14_224_55 := Kh14.2 224 55 rfl
        have th14_224_57 := Kh14.2 224 57 rfl
        refine sx_aload_n dX12_look_36 rfl ?_
        refine sx_getS (k := 49) (t := 259) cl_12 fl_X12_118 dX12_look_37 s_224 (by decide) rfl (by decide) ?_
        refine sx_aload_n dX12_look_40 rfl ?_
        refine sx_getI (k := 55) cl_12 fl_X12_397 dX12_look_41 s_224 (by decide) rfl (by decide) ?_
        refine sx_dup2 dX12_look_44 ?_
        refine sx_iaload dX12_look_45 s_259 (by decide) (by decide) ⟨by omega, by omega⟩ ?_
        refine sx_iconst dX12_look_46 ⟨by decide, by decide⟩ ?_
        refine sx_iadd dX12_look_47 ?_
        refine sy_iastore dX12_look_48 s_259 (by decide) (by decide) ⟨by omega, by omega⟩ (fun h16 eh16 => ?_)
        have Ih16 := Ih14.up eh16 trivial rfl
        have th16_224_51 := eh16.2 (224) 51 (by omega)
        have th16_224_52 := eh16.2 (224) 52 (by omega)
        have th16_224_53 := eh16.2 (224) 53 (by omega)
        have th16_224_54 := eh16.2 (224) 54 (by omega)
        have th16_224_55 := eh16.2 (224) 55 (by omega)
        have th16_224_56 := eh16.2 (224) 56 (by omega)
        have th16_224_57 := eh16.2 (224) 57 (by omega)
        refine sx_aload_n dX12_look_49 rfl ?_
        refine sx_iconst dX12_look_50 ⟨by decide, by decide⟩ ?_
        refine sx_iload_n dX12_look_51 rfl ?_
        refine sx_callVv lk_X12_434 cl_12 s_224 (by decide) dX12_look_52 (vs := [_, _]) rfl rfl (Nat.le_of_ble_eq_true rfl) (Nat.le_of_ble_eq_true rfl) rfl (c_X12_openNew _ Ih16.1 _ _ (by omega)) (fun h17 ph17 => ?_)
        obtain ⟨Kh17, o_h17, a252_h17, a253_h17, a254_h17, a255_h17⟩ := ph17
        have Ih17 := Ih16.tr Kh17 (prBW_sub rfl rfl rfl)
        have th17_224_51 := Kh17.2 224 51 rfl
        have th17_224_52 := Kh17.2 224 52 rfl
        have th17_224_53 := Kh17.2 224 53 rfl
        have th17_224_54 := Kh17.2 224 54 rfl
        have th17_224_56 := Kh17.2 224 56 rfl
        have th17_224_57 := Kh17.2 224 57 rfl
        refine sx_goto (tgt := 214) dX12_look_55 (by decide) ?_
        refine sx_aload_n dX12_look_214 rfl ?_
        refine sx_callVi lk_X12_440 cl_12 s_224 (by decide) dX12_look_215 (vs := []) rfl rfl (Nat.le_of_ble_eq_true rfl) (Nat.le_of_ble_eq_true rfl) rfl (c_X12_tooFar _ Ih17.1) (fun x20 h19 ph19 => ?_)
        obtain ⟨rfl, p_x20⟩ := ph19
        refine sx_ireturn dX12_look_218 ?_
        exact ⟨_, rfl, ⟨Ih17, by omega, by omega, by omega, fun k => by rw [a252_h17 k, eh16.2 252 k (by omega), show h14 252 k = _ from Kh14.2 252 k rfl, eh11.2 252 k (by omega)]; all_goals (try simp only [Nat.reduceEqDiff, false_and, if_false, true_and]); all_goals (by_cases q : (k : Int) = h0 224 55 + 1; (focus first | (rw [if_pos (by omega), if_pos q]; done) | (rw [if_pos (by omega), if_pos q]; omega)); (rw [if_neg (by omega), if_neg q])), fun k => by rw [a253_h17 k, eh16.2 253 k (by omega), show h14 253 k = _ from Kh14.2 253 k rfl, eh11.2 253 k (by omega)]; all_goals (try simp only [Nat.reduceEqDiff, false_and, if_false, true_and]); all_goals (by_cases q : (k : Int) = h0 224 55 + 1; (focus first | (rw [if_pos (by omega), if_pos q]; done) | (rw [if_pos (by omega), if_pos q]; omega)); (rw [if_neg (by omega), if_neg q])), fun k => by rw [a254_h17 k, eh16.2 254 k (by omega), show h14 254 k = _ from Kh14.2 254 k rfl, eh11.2 254 k (by omega)]; all_goals (try simp only [Nat.reduceEqDiff, false_and, if_false, true_and]); all_goals (by_cases q : (k : Int) = h0 224 55 + 1; (focus first | (rw [if_pos (by omega), if_pos q]; done) | (rw [if_pos (by omega), if_pos q]; omega)); (rw [if_neg (by omega), if_neg q])), fun k => by rw [a255_h17 k, eh16.2 255 k (by omega), show h14 255 k = _ from Kh14.2 255 k rfl, eh11.2 255 k (by omega)]; all_goals (try simp only [Nat.reduceEqDiff, false_and, if_false, true_and]); all_goals (by_cases q : (k : Int) = h0 224 55 + 1; (focus first | (rw [if_pos (by omega), if_pos q]; done) | (rw [if_pos (by omega), if_pos q]; omega)); (rw [if_neg (by omega), if_neg q])), fun k => by rw [show h17 256 k = _ from Kh17.2 256 k rfl, eh16.2 256 k (by omega), show h14 256 k = _ from Kh14.2 256 k rfl, eh11.2 256 k (by omega)], fun k => by rw [show h17 257 k = _ from Kh17.2 257 k rfl, eh16.2 257 k (by omega), show h14 257 k = _ from Kh14.2 257 k rfl, eh11.2 257 k (by omega)], ⟨fun k hk => by rw [show h17 243 k = _ from Kh17.2 243 k rfl, eh16.2 243 k (by omega), show h14 243 k = _ from Kh14.2 243 k rfl, eh11.at 243 k]; all_goals (try simp only [Nat.reduceEqDiff, false_and, if_false, true_and]); all_goals (try rw [if_neg (by omega)]), fun q => by first | (exfalso; omega) | exact (fun k => by rw [show h17 243 k = _ from Kh17.2 243 k rfl, eh16.2 243 k (by omega), show h14 243 k = _ from Kh14.2 243 k rfl, eh11.at 243 k])⟩⟩⟩
    ·
      exact absurd c12 (by decide)
set_option maxRecDepth 20000 in
set_option maxHeartbeats 4000000 in
theorem c_X12_look_4 {G : sw_G} (d : Nat) {h0 : sw_H} (hJ : mI h0) (b : Nat) (y2 y3 : Int) (hb : -6 ≤ h0 224 53 ∧ h0 224 53 ≤ 12 ∧ 0 ≤ h0 224 54 ∧ h0 224 54 ≤ 6 ∧ 0 ≤ h0 224 55 ∧ h0 224 55 ≤ 4 ∧ 0 ≤ h0 224 56 ∧ h0 224 56 ≤ 6 ∧ 0 ≤ h0 224 57 ∧ h0 224 57 ≤ 12 ∧ 1 ≤ h0 224 55) (hy : b ≤ 1 ∧ 60 * (1 - (b : Int)) ≤ y3 ∧ y3 < 60 * (1 - (b : Int)) + 60) (ho : 60 * (1 - (b : Int)) ≤ h0 253 (h0 224 55).toNat ∧ h0 253 (h0 224 55).toNat < 60 * (1 - (b : Int)) + 60 ∧ h0 253 (h0 224 55).toNat ≠ y3)  : sw_E G NH SH (d + 2) mX12_look 0 [some (sw_r 224), some (sw_i 4), some (sw_i y2), some (sw_i y3)] [] h0 (sw_Qi (fun z h' => mK (prB b [53, 54, 55, 56, 57, 58] [243, 252, 253, 254, 255, 256, 257, 258, 259, 260]) h0 h' ∧ ((z = 0 ∨ z = 6 ∨ z = 7) ∧ h0 224 56 ≤ h' 224 56 ∧ h0 224 57 ≤ h' 224 57 ∧ (z = 0 → h' 224 56 ≤ 6 ∧ h' 224 57 ≤ 12 ∧ h' 224 54 ≤ 6)) ∧ (h' 224 53 = h0 254 (h0 224 55).toNat ∧ h' 224 54 = h0 255 (h0 224 55).toNat) ∧ (h' 224 55 = h0 224 55) ∧ (∀ k : Nat, h' 252 k = if (k : Int) = h0 224 55 then 4 else h0 252 k) ∧ (∀ k : Nat, h' 253 k = if (k : Int) = h0 224 55 then y3 else h0 253 k) ∧ (∀ k : Nat, h' 254 k = h0 254 k) ∧ (∀ k : Nat, h' 255 k = h0 255 k) ∧ (∀ k : Nat, h' 256 k = if (k : Int) = h0 224 55 then h0 224 53 else h0 256 k) ∧ (∀ k : Nat, h' 257 k = if (k : Int) = h0 224 55 then h0 224 54 else h0 257 k) ∧ ((∀ k : Nat, (k : Int) ≠ y3 → h' 243 k = if (k : Int) = h0 253 (h0 224 55).toNat then y3 else h0 243 k) ∧ (h0 224 51 ≠ 0 → ∀ k : Nat, h' 243 k = if (k : Int) = h0 253 (h0 224 55).toNat then y3 else h0 243 k)))) := by
  have hI : mK (prB b [53, 54, 55, 56, 57, 58] [243, 252, 253, 254, 255, 256, 257, 258, 259, 260]) h0 h0 := mK.refl hJ
  have bb : (b : Int) ≤ 1 ∧ 0 ≤ (b : Int) := by omega
  have rl : (0 : Int) ≤ h0 224 52 ∧ h0 224 52 ≤ 1 := hI.1 224 52
  refine sx_aload_n dX12_look_0 rfl ?_
  refine sx_getI (k := 51) cl_12 fl_X12_424 dX12_look_1 s_224 (by decide) rfl (by decide) ?_
  refine sx_if_ne (tgt := 14) dX12_look_4 (by decide) (fun c1 => ?_) (fun c1 => ?_)
  ·
    refine sx_iload_n dX12_look_14 rfl ?_
    refine sx_iconst dX12_look_15 ⟨by decide, by decide⟩ ?_
    refine sx_icmp_gt (tgt := 26) dX12_look_16 (by decide) (fun c2 => ?_) (fun c2 => ?_)
    ·
      refine sx_iload_n dX12_look_26 rfl ?_
      refine sx_iconst dX12_look_27 ⟨by decide, by decide⟩ ?_
      refine sx_icmp_ne (tgt := 58) dX12_look_28 (by decide) (fun c3 => ?_) (fun c3 => ?_)
      ·
        refine sx_iload_n dX12_look_58 rfl ?_
        refine sx_bipush dX12_look_59 ⟨by decide, by decide, by decide⟩ ?_
        refine sx_icmp_ne (tgt := 84) dX12_look_61 (by decide) (fun c4 => ?_) (fun c4 => ?_)
        ·
          refine sx_iload_n dX12_look_84 rfl ?_
          refine sx_iconst dX12_look_85 ⟨by decide, by decide⟩ ?_
          refine sx_icmp_ne (tgt := 207) dX12_look_86 (by decide) (fun c5 => ?_) (fun c5 => ?_)
          ·
            exact absurd c5 (by decide)
          ·
            refine sx_aload_n dX12_look_89 rfl ?_
            refine sx_getS (k := 46) (t := 256) cl_12 fl_X12_109 dX12_look_90 s_224 (by decide) rfl (by decide) ?_
            refine sx_aload_n dX12_look_93 rfl ?_
            refine sx_getI (k := 55) cl_12 fl_X12_397 dX12_look_94 s_224 (by decide) rfl (by decide) ?_
            refine sx_aload_n dX12_look_97 rfl ?_
            refine sx_getI (k := 53) cl_12 fl_X12_406 dX12_look_98 s_224 (by decide) rfl (by decide) ?_
            refine sy_iastore dX12_look_101 s_256 (by decide) (by decide) ⟨by omega, by omega⟩ (fun h6 eh6 => ?_)
            have Ih6 := hI.up eh6 trivial rfl
            have th6_224_51 := eh6.2 (224) 51 (by omega)
            have th6_224_52 := eh6.2 (224) 52 (by omega)
            have th6_224_53 := eh6.2 (224) 53 (by omega)
            have th6_224_54 := eh6.2 (224) 54 (by omega)
            have th6_224_55 := eh6.2 (224) 55 (by omega)
            have th6_224_56 := eh6.2 (224) 56 (by omega)
            have th6_224_57 := eh6.2 (224) 57 (by omega)
            refine sx_aload_n dX12_look_102 rfl ?_
            refine sx_getS (k := 47) (t := 257) cl_12 fl_X12_112 dX12_look_103 s_224 (by decide) rfl (by decide) ?_
            refine sx_aload_n dX12_look_106 rfl ?_
            refine sx_getI (k := 55) cl_12 fl_X12_397 dX12_look_107 s_224 (by decide) rfl (by decide) ?_
            refine sx_aload_n dX12_look_110 rfl ?_
            refine sx_getI (k := 54) cl_12 fl_X12_400 dX12_look_111 s_224 (by decide) rfl (by decide) ?_
            refine sy_iastore dX12_look_114 s_257 (by decide) (by decide) ⟨by omega, by omega⟩ (fun h7 eh7 => ?_)
            have Ih7 := Ih6.up eh7 trivial rfl
            have th7_224_51 := eh7.2 (224) 51 (by omega)
            have th7_224_52 := eh7.2 (224) 52 (by omega)
            have th7_224_53 := eh7.2 (224) 53 (by omega)
            have th7_224_54 := eh7.2 (224) 54 (by omega)
            have th7_224_55 := eh7.2 (224) 55 (by omega)
            have th7_224_56 := eh7.2 (224) 56 (by omega)
            have th7_224_57 := eh7.2 (224) 57 (by omega)
            refine sx_aload_n dX12_look_115 rfl ?_
            refine sx_getS (k := 48) (t := 258) cl_12 fl_X12_115 dX12_look_116 s_224 (by decide) rfl (by decide) ?_
            refine sx_aload_n dX12_look_119 rfl ?_
            refine sx_getI (k := 55) cl_12 fl_X12_397 dX12_look_120 s_224 (by decide) rfl (by decide) ?_
            refine sx_aload_n dX12_look_123 rfl ?_
            refine sx_getS (k := 49) (t := 259) cl_12 fl_X12_118 dX12_look_124 s_224 (by decide) rfl (by decide) ?_
            refine sx_aload_n dX12_look_127 rfl ?_
            refine sx_getI (k := 55) cl_12 fl_X12_397 dX12_look_128 s_224 (by decide) rfl (by decide) ?_
            refine sx_iaload dX12_look_131 s_259 (by decide) (by decide) ⟨by omega, by omega⟩ ?_
            refine sy_iastore dX12_look_132 s_258 (by decide) (by decide) ⟨by omega, by omega⟩ (fun h8 eh8 => ?_)
            have Ih8 := Ih7.up eh8 trivial rfl
            have th8_224_51 := eh8.2 (224) 51 (by omega)
            have th8_224_52 := eh8.2 (224) 52 (by omega)
            have th8_224_53 := eh8.2 (224) 53 (by omega)
            have th8_224_54 := eh8.2 (224) 54 (by omega)
            have th8_224_55 := eh8.2 (224) 55 (by omega)
            have th8_224_56 := eh8.2 (224) 56 (by omega)
            have th8_224_57 := eh8.2 (224) 57 (by omega)
            refine sx_aload_n dX12_look_133 rfl ?_
            refine sx_getS (k := 27) (t := 243) cl_12 fl_X12_69 dX12_look_134 s_224 (by decide) rfl (by decide) ?_
            refine sx_aload_n dX12_look_137 rfl ?_
            refine sx_getS (k := 43) (t := 253) cl_12 fl_X12_100 dX12_look_138 s_224 (by decide) rfl (by decide) ?_
            refine sx_aload_n dX12_look_141 rfl ?_
            refine sx_getI (k := 55) cl_12 fl_X12_397 dX12_look_142 s_224 (by decide) rfl (by decide) ?_
            refine sy_iaF (F := fun z => (0 : Int) ≤ z ∧ z ≤ 119) dX12_look_145 s_253 (by decide) (by decide) ⟨by omega, by omega⟩ (Ih8.1 253 _) (fun r9 => ?_)
            refine sx_iload_n dX12_look_146 rfl ?_
            have bb : (b : Int) ≤ 1 ∧ 0 ≤ (b : Int) := by omega
            have eo : h8 253 (h8 224 55).toNat = h0 253 (h0 224 55).toNat := by rw [show (h8 224 55).toNat = (h0 224 55).toNat by omega]; all_goals rw [eh8.2 253 _ (by omega), eh7.2 253 _ (by omega), eh6.2 253 _ (by omega)]
            refine sy_iastore dX12_look_147 s_243 (by decide) (by decide) ⟨by omega, by omega⟩ (fun h10 eh10 => ?_)
            have Ih10 := Ih8.up eh10 (show (-1 : Int) ≤ _ ∧ _ ≤ (119 : Int) from ⟨by omega, by omega⟩) (decide_eq_false (show ¬ (60 * b ≤ _ ∧ _ < 60 * b + 60) by omega))
            have th10_224_51 := eh10.2 (224) 51 (by omega)
            have th10_224_52 := eh10.2 (224) 52 (by omega)
            have th10_224_53 := eh10.2 (224) 53 (by omega)
            have th10_224_54 := eh10.2 (224) 54 (by omega)
            have th10_224_55 := eh10.2 (224) 55 (by omega)
            have th10_224_56 := eh10.2 (224) 56 (by omega)
            have th10_224_57 := eh10.2 (224) 57 (by omega)
            refine sx_aload_n dX12_look_148 rfl ?_
            refine sx_getS (k := 43) (t := 253) cl_12 fl_X12_100 dX12_look_149 s_224 (by decide) rfl (by decide) ?_
            refine sx_aload_n dX12_look_152 rfl ?_
            refine sx_getI (k := 55) cl_12 fl_X12_397 dX12_look_153 s_224 (by decide) rfl (by decide) ?_
            refine sx_iload_n dX12_look_156 rfl ?_
            refine sy_iastore dX12_look_157 s_253 (by decide) (by decide) ⟨by omega, by omega⟩ (fun h11 eh11 => ?_)
            have Ih11 := Ih10.up eh11 (show (0 : Int) ≤ _ ∧ _ ≤ (119 : Int) from ⟨by omega, by omega⟩) rfl
            have th11_224_51 := eh11.2 (224) 51 (by omega)
            have th11_224_52 := eh11.2 (224) 52 (by omega)
            have th11_224_53 := eh11.2 (224) 53 (by omega)
            have th11_224_54 := eh11.2 (224) 54 (by omega)
            have th11_224_55 := eh11.2 (224) 55 (by omega)
            have th11_224_56 := eh11.2 (224) 56 (by omega)
            have th11_224_57 := eh11.2 (224) 57 (by omega)
            refine sx_aload_n dX12_look_158 rfl ?_
            refine sx_getS (k := 42) (t := 252) cl_12 fl_X12_97 dX12_look_159 s_224 (by decide) rfl (by decide) ?_
            refine sx_aload_n dX12_look_162 rfl ?_
            refine sx_getI (k := 55) cl_12 fl_X12_397 dX12_look_163 s_224 (by decide) rfl (by decide) ?_
            refine sx_iconst dX12_look_166 ⟨by decide, by decide⟩ ?_
            refine sy_iastore dX12_look_167 s_252 (by decide) (by decide) ⟨by omega, by omega⟩ (fun h12 eh12 => ?_)
            have Ih12 := Ih11.up eh12 trivial rfl
            have th12_224_51 := eh12.2 (224) 51 (by omega)
            have th12_224_52 := eh12.2 (224) 52 (by omega)
            have th12_224_53 := eh12.2 (224) 53 (by omega)
            have th12_224_54 := eh12.2 (224) 54 (by omega)
            have th12_224_55 := eh12.2 (224) 55 (by omega)
            have th12_224_56 := eh12.2 (224) 56 (by omega)
            have th12_224_57 := eh12.2 (224) 57 (by omega)
            refine sx_aload_n dX12_look_168 rfl ?_
            refine sx_aload_n dX12_look_169 rfl ?_
            refine sx_getS (k := 44) (t := 254) cl_12 fl_X12_103 dX12_look_170 s_224 (by decide) rfl (by decide) ?_
            refine sx_aload_n dX12_look_173 rfl ?_
            refine sx_getI (k := 55) cl_12 fl_X12_397 dX12_look_174 s_224 (by decide) rfl (by decide) ?_
            refine sx_iaload dX12_look_177 s_254 (by decide) (by decide) ⟨by omega, by omega⟩ ?_
            have e254 : h12 254 (h12 224 55).toNat = h0 254 (h0 224 55).toNat := by rw [show (h12 224 55).toNat = (h0 224 55).toNat by omega]; all_goals rw [eh12.2 254 _ (by omega), eh11.2 254 _ (by omega), eh10.2 254 _ (by omega), eh8.2 254 _ (by omega), eh7.2 254 _ (by omega), eh6.2 254 _ (by omega)]
            refine sy_putI (k := 53) cl_12 fl_X12_406 dX12_look_178 s_224 (by decide) rfl (by decide) rfl rfl (fun h13 eh13 => ?_)
            have Ih13 := Ih12.up eh13 trivial rfl
            have th13_224_51 := eh13.2 (224) 51 (by decide)
            have th13_224_52 := eh13.2 (224) 52 (by decide)
            have th13_224_53 := eh13.1
            have th13_224_54 := eh13.2 (224) 54 (by decide)
            have th13_224_55 := eh13.2 (224) 55 (by decide)
            have th13_224_56 := eh13.2 (224) 56 (by decide)
            have th13_224_57 := eh13.2 (224) 57 (by decide)
            refine sx_aload_n dX12_look_181 rfl ?_
            refine sx_aload_n dX12_look_182 rfl ?_
            refine sx_getS (k := 45) (t := 255) cl_12 fl_X12_106 dX12_look_183 s_224 (by decide) rfl (by decide) ?_
            refine sx_aload_n dX12_look_186 rfl ?_
            refine sx_getI (k := 55) cl_12 fl_X12_397 dX12_look_187 s_224 (by decide) rfl (by decide) ?_
            refine sx_iaload dX12_look_190 s_255 (by decide) (by decide) ⟨by omega, by omega⟩ ?_
            have e255 : h13 255 (h13 224 55).toNat = h0 255 (h0 224 55).toNat := by rw [show (h13 224 55).toNat = (h0 224 55).toNat by omega]; all_goals rw [eh13.2 255 _ (by omega), eh12.2 255 _ (by omega), eh11.2 255 _ (by omega), eh10.2 255 _ (by omega), eh8.2 255 _ (by omega), eh7.2 255 _ (by omega), eh6.2 255 _ (by omega)]
            refine sy_putI (k := 54) cl_12 fl_X12_400 dX12_look_191 s_224 (by decide) rfl (by decide) rfl rfl (fun h14 eh14 => ?_)
            have Ih14 := Ih13.up eh14 trivial rfl
            have th14_224_51 := eh14.2 (224) 51 (by decide)
            have th14_224_52 := eh14.2 (224) 52 (by decide)
            have th14_224_53 := eh14.2 (224) 53 (by decide)
            have th14_224_54 := eh14.1
            have th14_224_55 := eh14.2 (224) 55 (by decide)
            have th14_224_56 := eh14.2 (224) 56 (by decide)
            have th14_224_57 := eh14.2 (224) 57 (by decide)
            refine sx_aload_n dX12_look_194 rfl ?_
            refine sx_getS (k := 49) (t := 259) cl_12 fl_X12_118 dX12_look_195 s_224 (by decide) rfl (by decide) ?_
            refine sx_aload_n dX12_look_198 rfl ?_
            refine sx_getI (k := 55) cl_12 fl_X12_397 dX12_look_199 s_224 (by decide) rfl (by decide) ?_
            refine sx_iconst dX12_look_202 ⟨by decide, by decide⟩ ?_
            refine sy_iastore dX12_look_203 s_259 (by decide) (by decide) ⟨by omega, by omega⟩ (fun h15 eh15 => ?_)
            have Ih15 := Ih14.up eh15 trivial rfl
            have th15_224_51 := eh15.2 (224) 51 (by omega)
            have th15_224_52 := eh15.2 (224) 52 (by omega)
            have th15_224_53 := eh15.2 (224) 53 (by omega)
            have th15_224_54 := eh15.2 (224) 54 (by omega)
            have th15_224_55 := eh15.2 (224) 55 (by omega)
            have th15_224_56 := eh15.2 (224) 56 (by omega)
            have th15_224_57 := eh15.2 (224) 57 (by omega)
            refine sx_goto (tgt := 214) dX12_look_204 (by decide) ?_
            refine sx_aload_n dX12_look_214 rfl ?_
            refine sx_callVi lk_X12_440 cl_12 s_224 (by decide) dX12_look_215 (vs := []) rfl rfl (Nat.le_of_ble_eq_true rfl) (Nat.le_of_ble_eq_true rfl) rfl (c_X12_tooFar _ Ih15.1) (fun x17 h16 ph16 => ?_)
            obtain ⟨rfl, p_x17⟩ := ph16
            refine sx_ireturn dX12_look_218 ?_
            exact ⟨_, rfl, ⟨Ih15, by omega, by omega, by omega, fun k => by rw [eh15.2 252 k (by omega), eh14.2 252 k (by omega), eh13.2 252 k (by omega), eh12.at 252 k, eh11.2 252 k (by omega), eh10.2 252 k (by omega), eh8.2 252 k (by omega), eh7.2 252 k (by omega), eh6.2 252 k (by omega)]; all_goals (try simp only [Nat.reduceEqDiff, false_and, if_false, true_and]); all_goals (by_cases q : (k : Int) = h0 224 55; (focus first | (rw [if_pos (by omega), if_pos q]; done) | (rw [if_pos (by omega), if_pos q]; omega)); (rw [if_neg (by omega), if_neg q])), fun k => by rw [eh15.2 253 k (by omega), eh14.2 253 k (by omega), eh13.2 253 k (by omega), eh12.2 253 k (by omega), eh11.at 253 k, eh10.2 253 k (by omega), eh8.2 253 k (by omega), eh7.2 253 k (by omega), eh6.2 253 k (by omega)]; all_goals (try simp only [Nat.reduceEqDiff, false_and, if_false, true_and]); all_goals (by_cases q : (k : Int) = h0 224 55; (focus first | (rw [if_pos (by omega), if_pos q]; done) | (rw [if_pos (by omega), if_pos q]; omega)); (rw [if_neg (by omega), if_neg q])), fun k => by rw [eh15.2 254 k (by omega), eh14.2 254 k (by omega), eh13.2 254 k (by omega), eh12.2 254 k (by omega), eh11.2 254 k (by omega), eh10.2 254 k (by omega), eh8.2 254 k (by omega), eh7.2 254 k (by omega), eh6.2 254 k (by omega)], fun k => by rw [eh15.2 255 k (by omega), eh14.2 255 k (by omega), eh13.2 255 k (by omega), eh12.2 255 k (by omega), eh11.2 255 k (by omega), eh10.2 255 k (by omega), eh8.2 255 k (by omega), eh7.2 255 k (by omega), eh6.2 255 k (by omega)], fun k => by rw [eh15.2 256 k (by omega), eh14.2 256 k (by omega), eh13.2 256 k (by omega), eh12.2 256 k (by omega), eh11.2 256 k (by omega), eh10.2 256 k (by omega), eh8.2 256 k (by omega), eh7.2 256 k (by omega), eh6.at 256 k]; all_goals (try simp only [Nat.reduceEqDiff, false_and, if_false, true_and]); all_goals (by_cases q : (k : Int) = h0 224 55; (focus first | (rw [if_pos (by omega), if_pos q]; done) | (rw [if_pos (by omega), if_pos q]; omega)); (rw [if_neg (by omega), if_neg q])), fun k => by rw [eh15.2 257 k (by omega), eh14.2 257 k (by omega), eh13.2 257 k (by omega), eh12.2 257 k (by omega), eh11.2 257 k (by omega), eh10.2 257 k (by omega), eh8.2 257 k (by omega), eh7.at 257 k, eh6.2 257 k (by omega)]; all_goals (try simp only [Nat.reduceEqDiff, false_and, if_false, true_and]); all_goals (by_cases q : (k : Int) = h0 224 55; (focus first | (rw [if_pos (by omega), if_pos q]; done) | (rw [if_pos (by omega), if_pos q]; omega)); (rw [if_neg (by omega), if_neg q])), ⟨fun k hk => by rw [eh15.2 243 k (by omega), eh14.2 243 k (by omega), eh13.2 243 k (by omega), eh12.2 243 k (by omega), eh11.2 243 k (by omega), eh10.at 243 k, eh8.2 243 k (by omega), eh7.2 243 k (by omega), eh6.2 243 k (by omega)]; all_goals (try simp only [Nat.reduceEqDiff, false_and, if_false, true_and]); all_goals (try rw [eo]); all_goals (by_cases q2 : (k : Int) = h0 253 (h0 224 55).toNat; (rw [if_pos (by omega), if_pos q2]); (rw [if_neg (by omega), if_neg q2]; all_goals (first | rfl | rw [if_neg (by omega)]))), fun q => by first | (exfalso; omega) | exact (fun k => by rw [eh15.2 243 k (by omega), eh14.2 243 k (by omega), eh13.2 243 k (by omega), eh12.2 243 k (by omega), eh11.2 243 k (by omega), eh10.at 243 k, eh8.2 243 k (by omega), eh7.2 243 k (by omega), eh6.2 243 k (by omega)]; all_goals (try simp only [Nat.reduceEqDiff, false_and, if_false, true_and]); all_goals (try rw [eo]); all_goals (by_cases q2 : (k : Int) = h0 253 (h0 224 55).toNat; (rw [if_pos (by omega), if_pos q2]); (rw [if_neg (by omega), if_neg q2]; all_goals (first | rfl | rw [if_neg (by omega)]))))⟩⟩⟩
        ·
          exact absurd c4 (by decide)
      ·
        exact absurd c3 (by decide)
    ·
      exact absurd c2 (by decide)
  ·
    refine sx_aload_n dX12_look_7 rfl ?_
    refine sx_getS (k := 27) (t := 243) cl_12 fl_X12_69 dX12_look_8 s_224 (by decide) rfl (by decide) ?_
    refine sx_iload_n dX12_look_11 rfl ?_
    refine sx_iconst dX12_look_12 ⟨by decide, by decide⟩ ?_
    refine sy_iastore dX12_look_13 s_243 (by decide) (by decide) ⟨by omega, by omega⟩ (fun h18 eh18 => ?_)
    have Ih18 := hI.up eh18 (show (-1 : Int) ≤ _ ∧ _ ≤ (119 : Int) from ⟨by omega, by omega⟩) (decide_eq_false (show ¬ (60 * b ≤ _ ∧ _ < 60 * b + 60) by omega))
    have th18_224_51 := eh18.2 (224) 51 (by omega)
    have th18_224_52 := eh18.2 (224) 52 (by omega)
    have th18_224_53 := eh18.2 (224) 53 (by omega)
    have th18_224_54 := eh18.2 (224) 54 (by omega)
    have th18_224_55 := eh18.2 (224) 55 (by omega)
    have th18_224_56 := eh18.2 (224) 56 (by omega)
    have th18_224_57 := eh18.2 (224) 57 (by omega)
    refine sx_iload_n dX12_look_14 rfl ?_
    refine sx_iconst dX12_look_15 ⟨by decide, by decide⟩ ?_
    refine sx_icmp_gt (tgt := 26) dX12_look_16 (by decide) (fun c19 => ?_) (fun c19 => ?_)
    ·
      refine sx_iload_n dX12_look_26 rfl ?_
      refine sx_iconst dX12_look_27 ⟨by decide, by decide⟩ ?_
      refine sx_icmp_ne (tgt := 58) dX12_look_28 (by decide) (fun c20 => ?_) (fun c20 => ?_)
      ·
        refine sx_iload_n dX12_look_58 rfl ?_
        refine sx_bipush dX12_look_59 ⟨by decide, by decide, by decide⟩ ?_
        refine sx_icmp_ne (tgt := 84) dX12_look_61 (by decide) (fun c21 => ?_) (fun c21 => ?_)
        ·
          refine sx_iload_n dX12_look_84 rfl ?_
          refine sx_iconst dX12_look_85 ⟨by decide, by decide⟩ ?_
          refine sx_icmp_ne (tgt := 207) dX12_look_86 (by decide) (fun c22 => ?_) (fun c22 => ?_)
          ·
            exact absurd c22 (by decide)
          ·
            refine sx_aload_n dX12_look_89 rfl ?_
            refine sx_getS (k := 46) (t := 256) cl_12 fl_X12_109 dX12_look_90 s_224 (by decide) rfl (by decide) ?_
            refine sx_aload_n dX12_look_93 rfl ?_
            refine sx_getI (k := 55) cl_12 fl_X12_397 dX12_look_94 s_224 (by decide) rfl (by decide) ?_
            refine sx_aload_n dX12_look_97 rfl ?_
            refine sx_getI (k := 53) cl_12 fl_X12_406 dX12_look_98 s_224 (by decide) rfl (by decide) ?_
            refine sy_iastore dX12_look_101 s_256 (by decide) (by decide) ⟨by omega, by omega⟩ (fun h23 eh23 => ?_)
            have Ih23 := Ih18.up eh23 trivial rfl
            have th23_224_51 := eh23.2 (224) 51 (by omega)
            have th23_224_52 := eh23.2 (224) 52 (by omega)
            have th23_224_53 := eh23.2 (224) 53 (by omega)
            have th23_224_54 := eh23.2 (224) 54 (by omega)
            have th23_224_55 := eh23.2 (224) 55 (by omega)
            have th23_224_56 := eh23.2 (224) 56 (by omega)
            have th23_224_57 := eh23.2 (224) 57 (by omega)
            refine sx_aload_n dX12_look_102 rfl ?_
            refine sx_getS (k := 47) (t := 257) cl_12 fl_X12_112 dX12_look_103 s_224 (by decide) rfl (by decide) ?_
            refine sx_aload_n dX12_look_106 rfl ?_
            refine sx_getI (k := 55) cl_12 fl_X12_397 dX12_look_107 s_224 (by decide) rfl (by decide) ?_
            refine sx_aload_n dX12_look_110 rfl ?_
            refine sx_getI (k := 54) cl_12 fl_X12_400 dX12_look_111 s_224 (by decide) rfl (by decide) ?_
            refine sy_iastore dX12_look_114 s_257 (by decide) (by decide) ⟨by omega, by omega⟩ (fun h24 eh24 => ?_)
            have Ih24 := Ih23.up eh24 trivial rfl
            have th24_224_51 := eh24.2 (224) 51 (by omega)
            have th24_224_52 := eh24.2 (224) 52 (by omega)
            have th24_224_53 := eh24.2 (224) 53 (by omega)
            have th24_224_54 := eh24.2 (224) 54 (by omega)
            have th24_224_55 := eh24.2 (224) 55 (by omega)
            have th24_224_56 := eh24.2 (224) 56 (by omega)
            have th24_224_57 := eh24.2 (224) 57 (by omega)
            refine sx_aload_n dX12_look_115 rfl ?_
            refine sx_getS (k := 48) (t := 258) cl_12 fl_X12_115 dX12_look_116 s_224 (by decide) rfl (by decide) ?_
            refine sx_aload_n dX12_look_119 rfl ?_
            refine sx_getI (k := 55) cl_12 fl_X12_397 dX12_look_120 s_224 (by decide) rfl (by decide) ?_
            refine sx_aload_n dX12_look_123 rfl ?_
            refine sx_getS (k := 49) (t := 259) cl_12 fl_X12_118 dX12_look_124 s_224 (by decide) rfl (by decide) ?_
            refine sx_aload_n dX12_look_127 rfl ?_
            refine sx_getI (k := 55) cl_12 fl_X12_397 dX12_look_128 s_224 (by decide) rfl (by decide) ?_
            refine sx_iaload dX12_look_131 s_259 (by decide) (by decide) ⟨by omega, by omega⟩ ?_
            refine sy_iastore dX12_look_132 s_258 (by decide) (by decide) ⟨by omega, by omega⟩ (fun h25 eh25 => ?_)
            have Ih25 := Ih24.up eh25 trivial rfl
            have th25_224_51 := eh25.2 (224) 51 (by omega)
            have th25_224_52 := eh25.2 (224) 52 (by omega)
            have th25_224_53 := eh25.2 (224) 53 (by omega)
            have th25_224_54 := eh25.2 (224) 54 (by omega)
            have th25_224_55 := eh25.2 (224) 55 (by omega)
            have th25_224_56 := eh25.2 (224) 56 (by omega)
            have th25_224_57 := eh25.2 (224) 57 (by omega)
            refine sx_aload_n dX12_look_133 rfl ?_
            refine sx_getS (k := 27) (t := 243) cl_12 fl_X12_69 dX12_look_134 s_224 (by decide) rfl (by decide) ?_
            refine sx_aload_n dX12_look_137 rfl ?_
            refine sx_getS (k := 43) (t := 253) cl_12 fl_X12_100 dX12_look_138 s_224 (by decide) rfl (by decide) ?_
            refine sx_aload_n dX12_look_141 rfl ?_
            refine sx_getI (k := 55) cl_12 fl_X12_397 dX12_look_142 s_224 (by decide) rfl (by decide) ?_
            refine sy_iaF (F := fun z => (0 : Int) ≤ z ∧ z ≤ 119) dX12_look_145 s_253 (by decide) (by decide) ⟨by omega, by omega⟩ (Ih25.1 253 _) (fun r26 => ?_)
            refine sx_iload_n dX12_look_146 rfl ?_
            have bb : (b : Int) ≤ 1 ∧ 0 ≤ (b : Int) := by omega
            have eo : h25 253 (h25 224 55).toNat = h0 253 (h0 224 55).toNat := by rw [show (h25 224 55).toNat = (h0 224 55).toNat by omega]; all_goals rw [eh25.2 253 _ (by omega), eh24.2 253 _ (by omega), eh23.2 253 _ (by omega), eh18.2 253 _ (by omega)]
            refine sy_iastore dX12_look_147 s_243 (by decide) (by decide) ⟨by omega, by omega⟩ (fun h27 eh27 => ?_)
            have Ih27 := Ih25.up eh27 (show (-1 : Int) ≤ _ ∧ _ ≤ (119 : Int) from ⟨by omega, by omega⟩) (decide_eq_false (show ¬ (60 * b ≤ _ ∧ _ < 60 * b + 60) by omega))
            have th27_224_51 := eh27.2 (224) 51 (by omega)
            have th27_224_52 := eh27.2 (224) 52 (by omega)
            have th27_224_53 := eh27.2 (224) 53 (by omega)
            have th27_224_54 := eh27.2 (224) 54 (by omega)
            have th27_224_55 := eh27.2 (224) 55 (by omega)
            have th27_224_56 := eh27.2 (224) 56 (by omega)
            have th27_224_57 := eh27.2 (224) 57 (by omega)
            refine sx_aload_n dX12_look_148 rfl ?_
            refine sx_getS (k := 43) (t := 253) cl_12 fl_X12_100 dX12_look_149 s_224 (by decide) rfl (by decide) ?_
            refine sx_aload_n dX12_look_152 rfl ?_
            refine sx_getI (k := 55) cl_12 fl_X12_397 dX12_look_153 s_224 (by decide) rfl (by decide) ?_
            refine sx_iload_n dX12_look_156 rfl ?_
            refine sy_iastore dX12_look_157 s_253 (by decide) (by decide) ⟨by omega, by omega⟩ (fun h28 eh28 => ?_)
            have Ih28 := Ih27.up eh28 (show (0 : Int) ≤ _ ∧ _ ≤ (119 : Int) from ⟨by omega, by omega⟩) rfl
            have th28_224_51 := eh28.2 (224) 51 (by omega)
            have th28_224_52 := eh28.2 (224) 52 (by omega)
            have th28_224_53 := eh28.2 (224) 53 (by omega)
            have th28_224_54 := eh28.2 (224) 54 (by omega)
            have th28_224_55 := eh28.2 (224) 55 (by omega)
            have th28_224_56 := eh28.2 (224) 56 (by omega)
            have th28_224_57 := eh28.2 (224) 57 (by omega)
            refine sx_aload_n dX12_look_158 rfl ?_
            refine sx_getS (k := 42) (t := 252) cl_12 fl_X12_97 dX12_look_159 s_224 (by decide) rfl (by decide) ?_
            refine sx_aload_n dX12_look_162 rfl ?_
            refine sx_getI (k := 55) cl_12 fl_X12_397 dX12_look_163 s_224 (by decide) rfl (by decide) ?_
            refine sx_iconst dX12_look_166 ⟨by decide, by decide⟩ ?_
            refine sy_iastore dX12_look_167 s_252 (by decide) (by decide) ⟨by omega, by omega⟩ (fun h29 eh29 => ?_)
            have Ih29 := Ih28.up eh29 trivial rfl
            have th29_224_51 := eh29.2 (224) 51 (by omega)
            have th29_224_52 := eh29.2 (224) 52 (by omega)
            have th29_224_53 := eh29.2 (224) 53 (by omega)
            have th29_224_54 := eh29.2 (224) 54 (by omega)
            have th29_224_55 := eh29.2 (224) 55 (by omega)
            have th29_224_56 := eh29.2 (224) 56 (by omega)
            have th29_224_57 := eh29.2 (224) 57 (by omega)
            refine sx_aload_n dX12_look_168 rfl ?_
            refine sx_aload_n dX12_look_169 rfl ?_
            refine sx_getS (k := 44) (t := 254) cl_12 fl_X12_103 dX12_look_170 s_224 (by decide) rfl (by decide) ?_
            refine sx_aload_n dX12_look_173 rfl ?_
            refine sx_getI (k := 55) cl_12 fl_X12_397 dX12_look_174 s_224 (by decide) rfl (by decide) ?_
            refine sx_iaload dX12_look_177 s_254 (by decide) (by decide) ⟨by omega, by omega⟩ ?_
            have e254 : h29 254 (h29 224 55).toNat = h0 254 (h0 224 55).toNat := by rw [show (h29 224 55).toNat = (h0 224 55).toNat by omega]; all_goals rw [eh29.2 254 _ (by omega), eh28.2 254 _ (by omega), eh27.2 254 _ (by omega), eh25.2 254 _ (by omega), eh24.2 254 _ (by omega), eh23.2 254 _ (by omega), eh18.2 254 _ (by omega)]
            refine sy_putI (k := 53) cl_12 fl_X12_406 dX12_look_178 s_224 (by decide) rfl (by decide) rfl rfl (fun h30 eh30 => ?_)
            have Ih30 := Ih29.up eh30 trivial rfl
            have th30_224_51 := eh30.2 (224) 51 (by decide)
            have th30_224_52 := eh30.2 (224) 52 (by decide)
            have th30_224_53 := eh30.1
            have th30_224_54 := eh30.2 (224) 54 (by decide)
            have th30_224_55 := eh30.2 (224) 55 (by decide)
            have th30_224_56 := eh30.2 (224) 56 (by decide)
            have th30_224_57 := eh30.2 (224) 57 (by decide)
            refine sx_aload_n dX12_look_181 rfl ?_
            refine sx_aload_n dX12_look_182 rfl ?_
            refine sx_getS (k := 45) (t := 255) cl_12 fl_X12_106 dX12_look_183 s_224 (by decide) rfl (by decide) ?_
            refine sx_aload_n dX12_look_186 rfl ?_
            refine sx_getI (k := 55) cl_12 fl_X12_397 dX12_look_187 s_224 (by decide) rfl (by decide) ?_
            refine sx_iaload dX12_look_190 s_255 (by decide) (by decide) ⟨by omega, by omega⟩ ?_
            have e255 : h30 255 (h30 224 55).toNat = h0 255 (h0 224 55).toNat := by rw [show (h30 224 55).toNat = (h0 224 55).toNat by omega]; all_goals rw [eh30.2 255 _ (by omega), eh29.2 255 _ (by omega), eh28.2 255 _ (by omega), eh27.2 255 _ (by omega), eh25.2 255 _ (by omega), eh24.2 255 _ (by omega), eh23.2 255 _ (by omega), eh18.2 255 _ (by omega)]
            refine sy_putI (k := 54) cl_12 fl_X12_400 dX12_look_191 s_224 (by decide) rfl (by decide) rfl rfl (fun h31 eh31 => ?_)
            have Ih31 := Ih30.up eh31 trivial rfl
            have th31_224_51 := eh31.2 (224) 51 (by decide)
            have th31_224_52 := eh31.2 (224) 52 (by decide)
            have th31_224_53 := eh31.2 (224) 53 (by decide)
            have th31_224_54 := eh31.1
            have th31_224_55 := eh31.2 (224) 55 (by decide)
            have th31_224_56 := eh31.2 (224) 56 (by decide)
            have th31_224_57 := eh31.2 (224) 57 (by decide)
            refine sx_aload_n dX12_look_194 rfl ?_
            refine sx_getS (k := 49) (t := 259) cl_12 fl_X12_118 dX12_look_195 s_224 (by decide) rfl (by decide) ?_
            refine sx_aload_n dX12_look_198 rfl ?_
            refine sx_getI (k := 55) cl_12 fl_X12_397 dX12_look_199 s_224 (by decide) rfl (by decide) ?_
            refine sx_iconst dX12_look_202 ⟨by decide, by decide⟩ ?_
            refine sy_iastore dX12_look_203 s_259 (by decide) (by decide) ⟨by omega, by omega⟩ (fun h32 eh32 => ?_)
            have Ih32 := Ih31.up eh32 trivial rfl
            have th32_224_51 := eh32.2 (224) 51 (by omega)
            have th32_224_52 := eh32.2 (224) 52 (by omega)
            have th32_224_53 := eh32.2 (224) 53 (by omega)
            have th32_224_54 := eh32.2 (224) 54 (by omega)
            have th32_224_55 := eh32.2 (224) 55 (by omega)
            have th32_224_56 := eh32.2 (224) 56 (by omega)
            have th32_224_57 := eh32.2 (224) 57 (by omega)
            refine sx_goto (tgt := 214) dX12_look_204 (by decide) ?_
            refine sx_aload_n dX12_look_214 rfl ?_
            refine sx_callVi lk_X12_440 cl_12 s_224 (by decide) dX12_look_215 (vs := []) rfl rfl (Nat.le_of_ble_eq_true rfl) (Nat.le_of_ble_eq_true rfl) rfl (c_X12_tooFar _ Ih32.1) (fun x34 h33 ph33 => ?_)
            obtain ⟨rfl, p_x34⟩ := ph33
            refine sx_ireturn dX12_look_218 ?_
            exact ⟨_, rfl, ⟨Ih32, by omega, by omega, by omega, fun k => by rw [eh32.2 252 k (by omega), eh31.2 252 k (by omega), eh30.2 252 k (by omega), eh29.at 252 k, eh28.2 252 k (by omega), eh27.2 252 k (by omega), eh25.2 252 k (by omega), eh24.2 252 k (by omega), eh23.2 252 k (by omega), eh18.2 252 k (by omega)]; all_goals (try simp only [Nat.reduceEqDiff, false_and, if_false, true_and]); all_goals (by_cases q : (k : Int) = h0 224 55; (focus first | (rw [if_pos (by omega), if_pos q]; done) | (rw [if_pos (by omega), if_pos q]; omega)); (rw [if_neg (by omega), if_neg q])), fun k => by rw [eh32.2 253 k (by omega), eh31.2 253 k (by omega), eh30.2 253 k (by omega), eh29.2 253 k (by omega), eh28.at 253 k, eh27.2 253 k (by omega), eh25.2 253 k (by omega), eh24.2 253 k (by omega), eh23.2 253 k (by omega), eh18.2 253 k (by omega)]; all_goals (try simp only [Nat.reduceEqDiff, false_and, if_false, true_and]); all_goals (by_cases q : (k : Int) = h0 224 55; (focus first | (rw [if_pos (by omega), if_pos q]; done) | (rw [if_pos (by omega), if_pos q]; omega)); (rw [if_neg (by omega), if_neg q])), fun k => by rw [eh32.2 254 k (by omega), eh31.2 254 k (by omega), eh30.2 254 k (by omega), eh29.2 254 k (by omega), eh28.2 254 k (by omega), eh27.2 254 k (by omega), eh25.2 254 k (by omega), eh24.2 254 k (by omega), eh23.2 254 k (by omega), eh18.2 254 k (by omega)], fun k => by rw [eh32.2 255 k (by omega), eh31.2 255 k (by omega), eh30.2 255 k (by omega), eh29.2 255 k (by omega), eh28.2 255 k (by omega), eh27.2 255 k (by omega), eh25.2 255 k (by omega), eh24.2 255 k (by omega), eh23.2 255 k (by omega), eh18.2 255 k (by omega)], fun k => by rw [eh32.2 256 k (by omega), eh31.2 256 k (by omega), eh30.2 256 k (by omega), eh29.2 256 k (by omega), eh28.2 256 k (by omega), eh27.2 256 k (by omega), eh25.2 256 k (by omega), eh24.2 256 k (by omega), eh23.at 256 k, eh18.2 256 k (by omega)]; all_goals (try simp only [Nat.reduceEqDiff, false_and, if_false, true_and]); all_goals (by_cases q : (k : Int) = h0 224 55; (focus first | (rw [if_pos (by omega), if_pos q]; done) | (rw [if_pos (by omega), if_pos q]; omega)); (rw [if_neg (by omega), if_neg q])), fun k => by rw [eh32.2 257 k (by omega), eh31.2 257 k (by omega), eh30.2 257 k (by omega), eh29.2 257 k (by omega), eh28.2 257 k (by omega), eh27.2 257 k (by omega), eh25.2 257 k (by omega), eh24.at 257 k, eh23.2 257 k (by omega), eh18.2 257 k (by omega)]; all_goals (try simp only [Nat.reduceEqDiff, false_and, if_false, true_and]); all_goals (by_cases q : (k : Int) = h0 224 55; (focus first | (rw [if_pos (by omega), if_pos q]; done) | (rw [if_pos (by omega), if_pos q]; omega)); (rw [if_neg (by omega), if_neg q])), ⟨fun k hk => by rw [eh32.2 243 k (by omega), eh31.2 243 k (by omega), eh30.2 243 k (by omega), eh29.2 243 k (by omega), eh28.2 243 k (by omega), eh27.at 243 k, eh25.2 243 k (by omega), eh24.2 243 k (by omega), eh23.2 243 k (by omega), eh18.at 243 k]; all_goals (try simp only [Nat.reduceEqDiff, false_and, if_false, true_and]); all_goals (try rw [eo]); all_goals (by_cases q2 : (k : Int) = h0 253 (h0 224 55).toNat; (rw [if_pos (by omega), if_pos q2]); (rw [if_neg (by omega), if_neg q2]; all_goals (first | rfl | rw [if_neg (by omega)]))), fun q => by first | (exfalso; omega) | exact (fun k => by rw [eh32.2 243 k (by omega), eh31.2 243 k (by omega), eh30.2 243 k (by omega), eh29.2 243 k (by omega), eh28.2 243 k (by omega), eh27.at 243 k, eh25.2 243 k (by omega), eh24.2 243 k (by omega), eh23.2 243 k (by omega), eh18.at 243 k]; all_goals (try simp only [Nat.reduceEqDiff, false_and, if_false, true_and]); all_goals (try rw [eo]); all_goals (by_cases q2 : (k : Int) = h0 253 (h0 224 55).toNat; (rw [if_pos (by omega), if_pos q2]); (rw [if_neg (by omega), if_neg q2]; all_goals (first | rfl | rw [if_neg (by omega)]))))⟩⟩⟩
        ·
          exact absurd c21 (by decide)
      ·
        exact absurd c20 (by decide)
    ·
      exact absurd c19 (by decide)
set_option maxRecDepth 20000 in
set_option maxHeartbeats 4000000 in
theorem c_X12_look_5 {G : sw_G} (d : Nat) {h0 : sw_H} (hJ : mI h0) (b : Nat) (y2 y3 : Int) (hb : -6 ≤ h0 224 53 ∧ h0 224 53 ≤ 12 ∧ 0 ≤ h0 224 54 ∧ h0 224 54 ≤ 6 ∧ 0 ≤ h0 224 55 ∧ h0 224 55 ≤ 4 ∧ 0 ≤ h0 224 56 ∧ h0 224 56 ≤ 6 ∧ 0 ≤ h0 224 57 ∧ h0 224 57 ≤ 12 ∧ 1 ≤ h0 224 55) (hy : b ≤ 1 ∧ 60 * (1 - (b : Int)) ≤ y3 ∧ y3 < 60 * (1 - (b : Int)) + 60) (ho : 60 * (1 - (b : Int)) ≤ h0 253 (h0 224 55).toNat ∧ h0 253 (h0 224 55).toNat < 60 * (1 - (b : Int)) + 60 ∧ h0 253 (h0 224 55).toNat ≠ y3)  : sw_E G NH SH (d + 2) mX12_look 0 [some (sw_r 224), some (sw_i 5), some (sw_i y2), some (sw_i y3)] [] h0 (sw_Qi (fun z h' => mK (prB b [53, 54, 55, 56, 57, 58] [243, 252, 253, 254, 255, 256, 257, 258, 259, 260]) h0 h' ∧ ((z = 0 ∨ z = 6 ∨ z = 7) ∧ h0 224 56 ≤ h' 224 56 ∧ h0 224 57 ≤ h' 224 57 ∧ (z = 0 → h' 224 56 ≤ 6 ∧ h' 224 57 ≤ 12 ∧ h' 224 54 ≤ 6)) ∧ (h' 224 53 = h0 224 53 ∧ h' 224 54 = h0 224 54 ∧ (z = 0 → (h0 252 (h0 224 55).toNat = 4 → h0 224 53 = h0 256 (h0 224 55).toNat ∧ h0 224 54 = h0 257 (h0 224 55).toNat) ∧ (h0 252 (h0 224 55).toNat ≠ 4 → h0 224 53 = h0 254 (h0 224 55).toNat ∧ h0 224 54 = h0 255 (h0 224 55).toNat))) ∧ (h' 224 55 = h0 224 55 - 1) ∧ (∀ k : Nat, h' 252 k = h0 252 k) ∧ (∀ k : Nat, h' 253 k = h0 253 k) ∧ (∀ k : Nat, h' 254 k = h0 254 k) ∧ (∀ k : Nat, h' 255 k = h0 255 k) ∧ (∀ k : Nat, h' 256 k = h0 256 k) ∧ (∀ k : Nat, h' 257 k = h0 257 k) ∧ (∀ k : Nat, h' 243 k = if (k : Int) = y3 then h0 253 (h0 224 55).toNat else if (k : Int) = h0 253 (h0 224 55).toNat then y3 else h0 243 k))) := by
  have hI : mK (prB b [53, 54, 55, 56, 57, 58] [243, 252, 253, 254, 255, 256, 257, 258, 259, 260]) h0 h0 := mK.refl hJ
  have bb : (b : Int) ≤ 1 ∧ 0 ≤ (b : Int) := by omega
  have rl : (0 : Int) ≤ h0 224 52 ∧ h0 224 52 ≤ 1 := hI.1 224 52
  refine sx_aload_n dX12_look_0 rfl ?_
  refine sx_getI (k := 51) cl_12 fl_X12_424 dX12_look_1 s_224 (by decide) rfl (by decide) ?_
  refine sx_if_ne (tgt := 14) dX12_look_4 (by decide) (fun c1 => ?_) (fun c1 => ?_)
  ·
    refine sx_iload_n dX12_look_14 rfl ?_
    refine sx_iconst dX12_look_15 ⟨by decide, by decide⟩ ?_
    refine sx_icmp_gt (tgt := 26) dX12_look_16 (by decide) (fun c2 => ?_) (fun c2 => ?_)
    ·
      refine sx_iload_n dX12_look_26 rfl ?_
      refine sx_iconst dX12_look_27 ⟨by decide, by decide⟩ ?_
      refine sx_icmp_ne (tgt := 58) dX12_look_28 (by decide) (fun c3 => ?_) (fun c3 => ?_)
      ·
        refine sx_iload_n dX12_look_58 rfl ?_
        refine sx_bipush dX12_look_59 ⟨by decide, by decide, by decide⟩ ?_
        refine sx_icmp_ne (tgt := 84) dX12_look_61 (by decide) (fun c4 => ?_) (fun c4 => ?_)
        ·
          refine sx_iload_n dX12_look_84 rfl ?_
          refine sx_iconst dX12_look_85 ⟨by decide, by decide⟩ ?_
          refine sx_icmp_ne (tgt := 207) dX12_look_86 (by decide) (fun c5 => ?_) (fun c5 => ?_)
          ·
            refine sx_aload_n dX12_look_207 rfl ?_
            refine sx_iload_n dX12_look_208 rfl ?_
            refine sx_iload_n dX12_look_209 rfl ?_
            have bb : (b : Int) ≤ 1 ∧ 0 ≤ (b : Int) := by omega
            have eo : h0 253 (h0 224 55).toNat = h0 253 (h0 224 55).toNat := by rfl
            have eo252 : h0 252 (h0 224 55).toNat = h0 252 (h0 224 55).toNat := by rfl
            have eo254 : h0 254 (h0 224 55).toNat = h0 254 (h0 224 55).toNat := by rfl
            have eo255 : h0 255 (h0 224 55).toNat = h0 255 (h0 224 55).toNat := by rfl
            have eo256 : h0 256 (h0 224 55).toNat = h0 256 (h0 224 55).toNat := by rfl
            have eo257 : h0 257 (h0 224 55).toNat = h0 257 (h0 224 55).toNat := by rfl
            refine sx_callVi lk_X12_437 cl_12 s_224 (by decide) dX12_look_210 (vs := [_, _]) rfl rfl (Nat.le_of_ble_eq_true rfl) (Nat.le_of_ble_eq_true rfl) rfl (c_X12_close_5 _ hI.1 b _ (by omega) (by omega) (by rw [eo]; omega)) (fun x7 h6 ph6 => ?_)
            obtain ⟨Kh6, c_h6, x_h6, g_h6⟩ := ph6
            have Ih6 := hI.tr Kh6 (prB_sub rfl rfl)
            have th6_224_51 := Kh6.2 224 51 rfl
            have th6_224_52 := Kh6.2 224 52 rfl
            have th6_224_53 := Kh6.2 224 53 rfl
            have th6_224_54 := Kh6.2 224 54 rfl
            have th6_224_56 := Kh6.2 224 56 rfl
            have th6_224_57 := Kh6.2 224 57 rfl
            rw [eo252, eo254, eo255, eo256, eo257] at x_h6
            rw [eo] at g_h6
            refine sx_ireturn dX12_look_213 ?_
            exact ⟨_, rfl, ⟨Ih6, by omega, by omega, by omega, fun k => by rw [show h6 252 k = _ from Kh6.2 252 k rfl], fun k => by rw [show h6 253 k = _ from Kh6.2 253 k rfl], fun k => by rw [show h6 254 k = _ from Kh6.2 254 k rfl], fun k => by rw [show h6 255 k = _ from Kh6.2 255 k rfl], fun k => by rw [show h6 256 k = _ from Kh6.2 256 k rfl], fun k => by rw [show h6 257 k = _ from Kh6.2 257 k rfl], fun k => by rw [g_h6 k]; all_goals (try simp only [Nat.reduceEqDiff, false_and, if_false, true_and]); all_goals (try rw [eo]); all_goals (by_cases q1 : (k : Int) = y3; (rw [if_pos (by omega), if_pos q1]); (rw [if_neg (by omega), if_neg q1]; by_cases q2 : (k : Int) = h0 253 (h0 224 55).toNat; (rw [if_pos (by omega), if_pos q2]); (rw [if_neg (by omega), if_neg q2]; all_goals (first | rfl | rw [if_neg (by omega)]))))⟩⟩
          ·
            exact absurd c5 (by decide)
        ·
          exact absurd c4 (by decide)
      ·
        exact absurd c3 (by decide)
    ·
      exact absurd c2 (by decide)
  ·
    refine sx_aload_n dX12_look_7 rfl ?_
    refine sx_getS (k := 27) (t := 243) cl_12 fl_X12_69 dX12_look_8 s_224 (by decide) rfl (by decide) ?_
    refine sx_iload_n dX12_look_11 rfl ?_
    refine sx_iconst dX12_look_12 ⟨by decide, by decide⟩ ?_
    refine sy_iastore dX12_look_13 s_243 (by decide) (by decide) ⟨by omega, by omega⟩ (fun h8 eh8 => ?_)
    have Ih8 := hI.up eh8 (show (-1 : Int) ≤ _ ∧ _ ≤ (119 : Int) from ⟨by omega, by omega⟩) (decide_eq_false (show ¬ (60 * b ≤ _ ∧ _ < 60 * b + 60) by omega))
    have th8_224_51 := eh8.2 (224) 51 (by omega)
    have th8_224_52 := eh8.2 (224) 52 (by omega)
    have th8_224_53 := eh8.2 (224) 53 (by omega)
    have th8_224_54 := eh8.2 (224) 54 (by omega)
    have th8_224_55 := eh8.2 (224) 55 (by omega)
    have th8_224_56 := eh8.2 (224) 56 (by omega)
    have th8_224_57 := eh8.2 (224) 57 (by omega)
    refine sx_iload_n dX12_look_14 rfl ?_
    refine sx_iconst dX12_look_15 ⟨by decide, by decide⟩ ?_
    refine sx_icmp_gt (tgt := 26) dX12_look_16 (by decide) (fun c9 => ?_) (fun c9 => ?_)
    ·
      refine sx_iload_n dX12_look_26 rfl ?_
      refine sx_iconst dX12_look_27 ⟨by decide, by decide⟩ ?_
      refine sx_icmp_ne (tgt := 58) dX12_look_28 (by decide) (fun c10 => ?_) (fun c10 => ?_)
      ·
        refine sx_iload_n dX12_look_58 rfl ?_
        refine sx_bipush dX12_look_59 ⟨by decide, by decide, by decide⟩ ?_
        refine sx_icmp_ne (tgt := 84) dX12_look_61 (by decide) (fun c11 => ?_) (fun c11 => ?_)
        ·
          refine sx_iload_n dX12_look_84 rfl ?_
          refine sx_iconst dX12_look_85 ⟨by decide, by decide⟩ ?_
          refine sx_icmp_ne (tgt := 207) dX12_look_86 (by decide) (fun c12 => ?_) (fun c12 => ?_)
          ·
            refine sx_aload_n dX12_look_207 rfl ?_
            refine sx_iload_n dX12_look_208 rfl ?_
            refine sx_iload_n dX12_look_209 rfl ?_
            have bb : (b : Int) ≤ 1 ∧ 0 ≤ (b : Int) := by omega
            have eo : h8 253 (h8 224 55).toNat = h0 253 (h0 224 55).toNat := by rw [show (h8 224 55).toNat = (h0 224 55).toNat by omega]; all_goals rw [eh8.2 253 _ (by omega)]
            have eo252 : h8 252 (h8 224 55).toNat = h0 252 (h0 224 55).toNat := by rw [show (h8 224 55).toNat = (h0 224 55).toNat by omega]; all_goals rw [eh8.2 252 _ (by omega)]
            have eo254 : h8 254 (h8 224 55).toNat = h0 254 (h0 224 55).toNat := by rw [show (h8 224 55).toNat = (h0 224 55).toNat by omega]; all_goals rw [eh8.2 254 _ (by omega)]
            have eo255 : h8 255 (h8 224 55).toNat = h0 255 (h0 224 55).toNat := by rw [show (h8 224 55).toNat = (h0 224 55).toNat by omega]; all_goals rw [eh8.2 255 _ (by omega)]
            have eo256 : h8 256 (h8 224 55).toNat = h0 256 (h0 224 55).toNat := by rw [show (h8 224 55).toNat = (h0 224 55).toNat by omega]; all_goals rw [eh8.2 256 _ (by omega)]
            have eo257 : h8 257 (h8 224 55).toNat = h0 257 (h0 224 55).toNat := by rw [show (h8 224 55).toNat = (h0 224 55).toNat by omega]; all_goals rw [eh8.2 257 _ (by omega)]
            refine sx_callVi lk_X12_437 cl_12 s_224 (by decide) dX12_look_210 (vs := [_, _]) rfl rfl (Nat.le_of_ble_eq_true rfl) (Nat.le_of_ble_eq_true rfl) rfl (c_X12_close_5 _ Ih8.1 b _ (by omega) (by omega) (by rw [eo]; omega)) (fun x14 h13 ph13 => ?_)
            obtain ⟨Kh13, c_h13, x_h13, g_h13⟩ := ph13
            have Ih13 := Ih8.tr Kh13 (prB_sub rfl rfl)
            have th13_224_51 := Kh13.2 224 51 rfl
            have th13_224_52 := Kh13.2 224 52 rfl
            have th13_224_53 := Kh13.2 224 53 rfl
            have th13_224_54 := Kh13.2 224 54 rfl
            have th13_224_56 := Kh13.2 224 56 rfl
            have th13_224_57 := Kh13.2 224 57 rfl
            rw [eo252, eo254, eo255, eo256, eo257] at x_h13
            rw [eo] at g_h13
            refine sx_ireturn dX12_look_213 ?_
            exact ⟨_, rfl, ⟨Ih13, by omega, by omega, by omega, fun k => by rw [show h13 252 k = _ from Kh13.2 252 k rfl, eh8.2 252 k (by omega)], fun k => by rw [show h13 253 k = _ from Kh13.2 253 k rfl, eh8.2 253 k (by omega)], fun k => by rw [show h13 254 k = _ from Kh13.2 254 k rfl, eh8.2 254 k (by omega)], fun k => by rw [show h13 255 k = _ from Kh13.2 255 k rfl, eh8.2 255 k (by omega)], fun k => by rw [show h13 256 k = _ from Kh13.2 256 k rfl, eh8.2 256 k (by omega)], fun k => by rw [show h13 257 k = _ from Kh13.2 257 k rfl, eh8.2 257 k (by omega)], fun k => by rw [g_h13 k, eh8.at 243 k]; all_goals (try simp only [Nat.reduceEqDiff, false_and, if_false, true_and]); all_goals (try rw [eo]); all_goals (by_cases q1 : (k : Int) = y3; (rw [if_pos (by omega), if_pos q1]); (rw [if_neg (by omega), if_neg q1]; by_cases q2 : (k : Int) = h0 253 (h0 224 55).toNat; (rw [if_pos (by omega), if_pos q2]); (rw [if_neg (by omega), if_neg q2]; all_goals (first | rfl | rw [if_neg (by omega)]))))⟩⟩
          ·
            exact absurd c12 (by decide)
        ·
          exact absurd c11 (by decide)
      ·
        exact absurd c10 (by decide)
    ·
      exact absurd c9 (by decide)
set_option maxRecDepth 20000 in
set_option maxHeartbeats 4000000 in
theorem c_X12_look_6 {G : sw_G} (d : Nat) {h0 : sw_H} (hJ : mI h0) (b : Nat) (y2 y3 : Int) (hb : -6 ≤ h0 224 53 ∧ h0 224 53 ≤ 12 ∧ 0 ≤ h0 224 54 ∧ h0 224 54 ≤ 6 ∧ 0 ≤ h0 224 55 ∧ h0 224 55 ≤ 4 ∧ 0 ≤ h0 224 56 ∧ h0 224 56 ≤ 6 ∧ 0 ≤ h0 224 57 ∧ h0 224 57 ≤ 12 ∧ h0 224 55 ≤ 3) (hy : b ≤ 1 ∧ 60 * (1 - (b : Int)) ≤ y3 ∧ y3 < 60 * (1 - (b : Int)) + 60)  : sw_E G NH SH (d + 2) mX12_look 0 [some (sw_r 224), some (sw_i 6), some (sw_i y2), some (sw_i y3)] [] h0 (sw_Qi (fun z h' => mK (prB b [53, 54, 55, 56, 57, 58] [243, 252, 253, 254, 255, 256, 257, 258, 259, 260]) h0 h' ∧ ((z = 0 ∨ z = 6 ∨ z = 7) ∧ h0 224 56 ≤ h' 224 56 ∧ h0 224 57 ≤ h' 224 57 ∧ (z = 0 → h' 224 56 ≤ 6 ∧ h' 224 57 ≤ 12 ∧ h' 224 54 ≤ 6)) ∧ (h' 224 53 = h0 224 53 ∧ h' 224 54 = h0 224 54) ∧ (h' 224 55 = h0 224 55 + 1) ∧ (∀ k : Nat, h' 252 k = if (k : Int) = h0 224 55 + 1 then 6 else h0 252 k) ∧ (∀ k : Nat, h' 253 k = if (k : Int) = h0 224 55 + 1 then y3 else h0 253 k) ∧ (∀ k : Nat, h' 254 k = if (k : Int) = h0 224 55 + 1 then h' 224 53 else h0 254 k) ∧ (∀ k : Nat, h' 255 k = if (k : Int) = h0 224 55 + 1 then h' 224 54 else h0 255 k) ∧ (∀ k : Nat, h' 256 k = h0 256 k) ∧ (∀ k : Nat, h' 257 k = h0 257 k) ∧ ((∀ k : Nat, (k : Int) ≠ y3 → h' 243 k = h0 243 k) ∧ (h0 224 51 ≠ 0 → ∀ k : Nat, h' 243 k = h0 243 k)))) := by
  have hI : mK (prB b [53, 54, 55, 56, 57, 58] [243, 252, 253, 254, 255, 256, 257, 258, 259, 260]) h0 h0 := mK.refl hJ
  have bb : (b : Int) ≤ 1 ∧ 0 ≤ (b : Int) := by omega
  have rl : (0 : Int) ≤ h0 224 52 ∧ h0 224 52 ≤ 1 := hI.1 224 52
  refine sx_aload_n dX12_look_0 rfl ?_
  refine sx_getI (k := 51) cl_12 fl_X12_424 dX12_look_1 s_224 (by decide) rfl (by decide) ?_
  refine sx_if_ne (tgt := 14) dX12_look_4 (by decide) (fun c1 => ?_) (fun c1 => ?_)
  ·
    refine sx_iload_n dX12_look_14 rfl ?_
    refine sx_iconst dX12_look_15 ⟨by decide, by decide⟩ ?_
    refine sx_icmp_gt (tgt := 26) dX12_look_16 (by decide) (fun c2 => ?_) (fun c2 => ?_)
    ·
      refine sx_iload_n dX12_look_26 rfl ?_
      refine sx_iconst dX12_look_27 ⟨by decide, by decide⟩ ?_
      refine sx_icmp_ne (tgt := 58) dX12_look_28 (by decide) (fun c3 => ?_) (fun c3 => ?_)
      ·
        refine sx_iload_n dX12_look_58 rfl ?_
        refine sx_bipush dX12_look_59 ⟨by decide, by decide, by decide⟩ ?_
        refine sx_icmp_ne (tgt := 84) dX12_look_61 (by decide) (fun c4 => ?_) (fun c4 => ?_)
        ·
          exact absurd c4 (by decide)
        ·
          refine sx_aload_n dX12_look_64 rfl ?_
          refine sx_bipush dX12_look_65 ⟨by decide, by decide, by decide⟩ ?_
          refine sx_iload_n dX12_look_67 rfl ?_
          refine sx_callVv lk_X12_434 cl_12 s_224 (by decide) dX12_look_68 (vs := [_, _]) rfl rfl (Nat.le_of_ble_eq_true rfl) (Nat.le_of_ble_eq_true rfl) rfl (c_X12_openNew _ hI.1 _ _ (by omega)) (fun h5 ph5 => ?_)
          obtain ⟨Kh5, o_h5, a252_h5, a253_h5, a254_h5, a255_h5⟩ := ph5
          have Ih5 := hI.tr Kh5 (prBW_sub rfl rfl rfl)
          have th5_224_51 := Kh5.2 224 51 rfl
          have th5_224_52 := Kh5.2 224 52 rfl
          have th5_224_53 := Kh5.2 224 53 rfl
          have th5_224_54 := Kh5.2 224 54 rfl
          have th5_224_56 := Kh5.2 224 56 rfl
          have th5_224_57 := Kh5.2 224 57 rfl
          refine sx_aload_n dX12_look_71 rfl ?_
          refine sx_getS (k := 50) (t := 260) cl_12 fl_X12_121 dX12_look_72 s_224 (by decide) rfl (by decide) ?_
          refine sx_aload_n dX12_look_75 rfl ?_
          refine sx_getI (k := 55) cl_12 fl_X12_397 dX12_look_76 s_224 (by decide) rfl (by decide) ?_
          refine sx_iload_n dX12_look_79 rfl ?_
          refine sy_iastore dX12_look_80 s_260 (by decide) (by decide) ⟨by omega, by omega⟩ (fun h7 eh7 => ?_)
          have Ih7 := Ih5.up eh7 trivial rfl
          have th7_224_51 := eh7.2 (224) 51 (by omega)
          have th7_224_52 := eh7.2 (224) 52 (by omega)
          have th7_224_53 := eh7.2 (224) 53 (by omega)
          have th7_224_54 := eh7.2 (224) 54 (by omega)
          have th7_224_55 := eh7.2 (224) 55 (by omega)
          have th7_224_56 := eh7.2 (224) 56 (by omega)
          have th7_224_57 := eh7.2 (224) 57 (by omega)
          refine sx_goto (tgt := 214) dX12_look_81 (by decide) ?_
          refine sx_aload_n dX12_look_214 rfl ?_
          refine sx_callVi lk_X12_440 cl_12 s_224 (by decide) dX12_look_215 (vs := []) rfl rfl (Nat.le_of_ble_eq_true rfl) (Nat.le_of_ble_eq_true rfl) rfl (c_X12_tooFar _ Ih7.1) (fun x9 h8 ph8 => ?_)
          obtain ⟨rfl, p_x9⟩ := ph8
          refine sx_ireturn dX12_look_218 ?_
          exact ⟨_, rfl, ⟨Ih7, by omega, by omega, by omega, fun k => by rw [eh7.2 252 k (by omega), a252_h5 k]; all_goals (try simp only [Nat.reduceEqDiff, false_and, if_false, true_and]); all_goals (by_cases q : (k : Int) = h0 224 55 + 1; (focus first | (rw [if_pos (by omega), if_pos q]; done) | (rw [if_pos (by omega), if_pos q]; omega)); (rw [if_neg (by omega), if_neg q])), fun k => by rw [eh7.2 253 k (by omega), a253_h5 k]; all_goals (try simp only [Nat.reduceEqDiff, false_and, if_false, true_and]); all_goals (by_cases q : (k : Int) = h0 224 55 + 1; (focus first | (rw [if_pos (by omega), if_pos q]; done) | (rw [if_pos (by omega), if_pos q]; omega)); (rw [if_neg (by omega), if_neg q])), fun k => by rw [eh7.2 254 k (by omega), a254_h5 k]; all_goals (try simp only [Nat.reduceEqDiff, false_and, if_false, true_and]); all_goals (by_cases q : (k : Int) = h0 224 55 + 1; (focus first | (rw [if_pos (by omega), if_pos q]; done) | (rw [if_pos (by omega), if_pos q]; omega)); (rw [if_neg (by omega), if_neg q])), fun k => by rw [eh7.2 255 k (by omega), a255_h5 k]; all_goals (try simp only [Nat.reduceEqDiff, false_and, if_false, true_and]); all_goals (by_cases q : (k : Int) = h0 224 55 + 1; (focus first | (rw [if_pos (by omega), if_pos q]; done) | (rw [if_pos (by omega), if_pos q]; omega)); (rw [if_neg (by omega), if_neg q])), fun k => by rw [eh7.2 256 k (by omega), show h5 256 k = _ from Kh5.2 256 k rfl], fun k => by rw [eh7.2 257 k (by omega), show h5 257 k = _ from Kh5.2 257 k rfl], ⟨fun k hk => by rw [eh7.2 243 k (by omega), show h5 243 k = _ from Kh5.2 243 k rfl]; all_goals (try simp only [Nat.reduceEqDiff, false_and, if_false, true_and]); all_goals (try rw [if_neg (by omega)]), fun q => by first | (exfalso; omega) | exact (fun k => by rw [eh7.2 243 k (by omega), show h5 243 k = _ from Kh5.2 243 k rfl])⟩⟩⟩
      ·
        exact absurd c3 (by decide)
    ·
      exact absurd c2 (by decide)
  ·
    refine sx_aload_n dX12_look_7 rfl ?_
    refine sx_getS (k := 27) (t := 243) cl_12 fl_X12_69 dX12_look_8 s_224 (by decide) rfl (by decide) ?_
    refine sx_iload_n dX12_look_11 rfl ?_
    refine sx_iconst dX12_look_12 ⟨by decide, by decide⟩ ?_
    refine sy_iastore dX12_look_13 s_243 (by decide) (by decide) ⟨by omega, by omega⟩ (fun h10 eh10 => ?_)
    have Ih10 := hI.up eh10 (show (-1 : Int) ≤ _ ∧ _ ≤ (119 : Int) from ⟨by omega, by omega⟩) (decide_eq_false (show ¬ (60 * b ≤ _ ∧ _ < 60 * b + 60) by omega))
    have th10_224_51 := eh10.2 (224) 51 (by omega)
    have th10_224_52 := eh10.2 (224) 52 (by omega)
    have th10_224_53 := eh10.2 (224) 53 (by omega)
    have th10_224_54 := eh10.2 (224) 54 (by omega)
    have th10_224_55 := eh10.2 (224) 55 (by omega)
    have th10_224_56 := eh10.2 (224) 56 (by omega)
    have th10_224_57 := eh10.2 (224) 57 (by omega)
    refine sx_iload_n dX12_look_14 rfl ?_
    refine sx_iconst dX12_look_15 ⟨by decide, by decide⟩ ?_
    refine sx_icmp_gt (tgt := 26) dX12_look_16 (by decide) (fun c11 => ?_) (fun c11 => ?_)
    ·
      refine sx_iload_n dX12_look_26 rfl ?_
      refine sx_iconst dX12_look_27 ⟨by decide, by decide⟩ ?_
      refine sx_icmp_ne (tgt := 58) dX12_look_28 (by decide) (fun c12 => ?_) (fun c12 => ?_)
      ·
        refine sx_iload_n dX12_look_58 rfl ?_
        refine sx_bipush dX12_look_59 ⟨by decide, by decide, by decide⟩ ?_
        refine sx_icmp_ne (tgt := 84) dX12_look_61 (by decide) (fun c13 => ?_) (fun c13 => ?_)
        ·
          exact absurd c13 (by decide)
        ·
          refine sx_aload_n dX12_look_64 rfl ?_
          refine sx_bipush dX12_look_65 ⟨by decide, by decide, by decide⟩ ?_
          refine sx_iload_n dX12_look_67 rfl ?_
          refine sx_callVv lk_X12_434 cl_12 s_224 (by decide) dX12_look_68 (vs := [_, _]) rfl rfl (Nat.le_of_ble_eq_true rfl) (Nat.le_of_ble_eq_true rfl) rfl (c_X12_openNew _ Ih10.1 _ _ (by omega)) (fun h14 ph14 => ?_)
          obtain ⟨Kh14, o_h14, a252_h14, a253_h14, a254_h14, a255_h14⟩ := ph14
          have Ih14 := Ih10.tr Kh14 (prBW_sub rfl rfl rfl)
          have th14_224_51 := Kh14.2 224 51 rfl
          have th14_224_52 := Kh14.2 224 52 rfl
          have th14_224_53 := Kh14.2 224 53 rfl
          have th14_224_54 := Kh14.2 224 54 rfl
          have th14_224_56 := Kh14.2 224 56 rfl
          have th14_224_57 := Kh14.2 224 57 rfl
          refine sx_aload_n dX12_look_71 rfl ?_
          refine sx_getS (k := 50) (t := 260) cl_12 fl_X12_121 dX12_look_72 s_224 (by decide) rfl (by decide) ?_
          refine sx_aload_n dX12_look_75 rfl ?_
          refine sx_getI (k := 55) cl_12 fl_X12_397 dX12_look_76 s_224 (by decide) rfl (by decide) ?_
          refine sx_iload_n dX12_look_79 rfl ?_
          refine sy_iastore dX12_look_80 s_260 (by decide) (by decide) ⟨by omega, by omega⟩ (fun h16 eh16 => ?_)
          have Ih16 := Ih14.up eh16 trivial rfl
          have th16_224_51 := eh16.2 (224) 51 (by omega)
          have th16_224_52 := eh16.2 (224) 52 (by omega)
          have th16_224_53 := eh16.2 (224) 53 (by omega)
          have th16_224_54 := eh16.2 (224) 54 (by omega)
          have th16_224_55 := eh16.2 (224) 55 (by omega)
          have th16_224_56 := eh16.2 (224) 56 (by omega)
          have th16_224_57 := eh16.2 (224) 57 (by omega)
          refine sx_goto (tgt := 214) dX12_look_81 (by decide) ?_
          refine sx_aload_n dX12_look_214 rfl ?_
          refine sx_callVi lk_X12_440 cl_12 s_224 (by decide) dX12_look_215 (vs := []) rfl rfl (Nat.le_of_ble_eq_true rfl) (Nat.le_of_ble_eq_true rfl) rfl (c_X12_tooFar _ Ih16.1) (fun x18 h17 ph17 => ?_)
          obtain ⟨rfl, p_x18⟩ := ph17
          refine sx_ireturn dX12_look_218 ?_
          exact ⟨_, rfl, ⟨Ih16, by omega, by omega, by omega, fun k => by rw [eh16.2 252 k (by omega), a252_h14 k, eh10.2 252 k (by omega)]; all_goals (try simp only [Nat.reduceEqDiff, false_and, if_false, true_and]); all_goals (by_cases q : (k : Int) = h0 224 55 + 1; (focus first | (rw [if_pos (by omega), if_pos q]; done) | (rw [if_pos (by omega), if_pos q]; omega)); (rw [if_neg (by omega), if_neg q])), fun k => by rw [eh16.2 253 k (by omega), a253_h14 k, eh10.2 253 k (by omega)]; all_goals (try simp only [Nat.reduceEqDiff, false_and, if_false, true_and]); all_goals (by_cases q : (k : Int) = h0 224 55 + 1; (focus first | (rw [if_pos (by omega), if_pos q]; done) | (rw [if_pos (by omega), if_pos q]; omega)); (rw [if_neg (by omega), if_neg q])), fun k => by rw [eh16.2 254 k (by omega), a254_h14 k, eh10.2 254 k (by omega)]; all_goals (try simp only [Nat.reduceEqDiff, false_and, if_false, true_and]); all_goals (by_cases q : (k : Int) = h0 224 55 + 1; (focus first | (rw [if_pos (by omega), if_pos q]; done) | (rw [if_pos (by omega), if_pos q]; omega)); (rw [if_neg (by omega), if_neg q])), fun k => by rw [eh16.2 255 k (by omega), a255_h14 k, eh10.2 255 k (by omega)]; all_goals (try simp only [Nat.reduceEqDiff, false_and, if_false, true_and]); all_goals (by_cases q : (k : Int) = h0 224 55 + 1; (focus first | (rw [if_pos (by omega), if_pos q]; done) | (rw [if_pos (by omega), if_pos q]; omega)); (rw [if_neg (by omega), if_neg q])), fun k => by rw [eh16.2 256 k (by omega), show h14 256 k = _ from Kh14.2 256 k rfl, eh10.2 256 k (by omega)], fun k => by rw [eh16.2 257 k (by omega), show h14 257 k = _ from Kh14.2 257 k rfl, eh10.2 257 k (by omega)], ⟨fun k hk => by rw [eh16.2 243 k (by omega), show h14 243 k = _ from Kh14.2 243 k rfl, eh10.at 243 k]; all_goals (try simp only [Nat.reduceEqDiff, false_and, if_false, true_and]); all_goals (try rw [if_neg (by omega)]), fun q => by first | (exfalso; omega) | exact (fun k => by rw [eh16.2 243 k (by omega), show h14 243 k = _ from Kh14.2 243 k rfl, eh10.at 243 k])⟩⟩⟩
      ·
        exact absurd c12 (by decide)
    ·
      exact absurd c11 (by decide)
set_option maxRecDepth 20000 in
set_option maxHeartbeats 4000000 in
theorem c_X12_look_7 {G : sw_G} (d : Nat) {h0 : sw_H} (hJ : mI h0) (b : Nat) (y2 y3 : Int) (hb : -6 ≤ h0 224 53 ∧ h0 224 53 ≤ 12 ∧ 0 ≤ h0 224 54 ∧ h0 224 54 ≤ 6 ∧ 0 ≤ h0 224 55 ∧ h0 224 55 ≤ 4 ∧ 0 ≤ h0 224 56 ∧ h0 224 56 ≤ 6 ∧ 0 ≤ h0 224 57 ∧ h0 224 57 ≤ 12 ∧ 1 ≤ h0 224 55) (hy : b ≤ 1 ∧ 60 * (1 - (b : Int)) ≤ y3 ∧ y3 < 60 * (1 - (b : Int)) + 60) (ho : 60 * (1 - (b : Int)) ≤ h0 253 (h0 224 55).toNat ∧ h0 253 (h0 224 55).toNat < 60 * (1 - (b : Int)) + 60 ∧ h0 253 (h0 224 55).toNat ≠ y3)  : sw_E G NH SH (d + 2) mX12_look 0 [some (sw_r 224), some (sw_i 7), some (sw_i y2), some (sw_i y3)] [] h0 (sw_Qi (fun z h' => mK (prB b [53, 54, 55, 56, 57, 58] [243, 252, 253, 254, 255, 256, 257, 258, 259, 260]) h0 h' ∧ ((z = 0 ∨ z = 6 ∨ z = 7) ∧ h0 224 56 ≤ h' 224 56 ∧ h0 224 57 ≤ h' 224 57 ∧ (z = 0 → h' 224 56 ≤ 6 ∧ h' 224 57 ≤ 12 ∧ h' 224 54 ≤ 6)) ∧ (h' 224 53 = h0 224 53 ∧ h' 224 54 = h0 224 54 ∧ (z = 0 → (h0 252 (h0 224 55).toNat = 4 → h0 224 53 = h0 256 (h0 224 55).toNat ∧ h0 224 54 = h0 257 (h0 224 55).toNat) ∧ (h0 252 (h0 224 55).toNat ≠ 4 → h0 224 53 = h0 254 (h0 224 55).toNat ∧ h0 224 54 = h0 255 (h0 224 55).toNat))) ∧ (h' 224 55 = h0 224 55 - 1) ∧ (∀ k : Nat, h' 252 k = h0 252 k) ∧ (∀ k : Nat, h' 253 k = h0 253 k) ∧ (∀ k : Nat, h' 254 k = h0 254 k) ∧ (∀ k : Nat, h' 255 k = h0 255 k) ∧ (∀ k : Nat, h' 256 k = h0 256 k) ∧ (∀ k : Nat, h' 257 k = h0 257 k) ∧ (∀ k : Nat, h' 243 k = if (k : Int) = y3 then h0 253 (h0 224 55).toNat else if (k : Int) = h0 253 (h0 224 55).toNat then y3 else h0 243 k))) := by
  have hI : mK (prB b [53, 54, 55, 56, 57, 58] [243, 252, 253, 254, 255, 256, 257, 258, 259, 260]) h0 h0 := mK.refl hJ
  have bb : (b : Int) ≤ 1 ∧ 0 ≤ (b : Int) := by omega
  have rl : (0 : Int) ≤ h0 224 52 ∧ h0 224 52 ≤ 1 := hI.1 224 52
  refine sx_aload_n dX12_look_0 rfl ?_
  refine sx_getI (k := 51) cl_12 fl_X12_424 dX12_look_1 s_224 (by decide) rfl (by decide) ?_
  refine sx_if_ne (tgt := 14) dX12_look_4 (by decide) (fun c1 => ?_) (fun c1 => ?_)
  ·
    refine sx_iload_n dX12_look_14 rfl ?_
    refine sx_iconst dX12_look_15 ⟨by decide, by decide⟩ ?_
    refine sx_icmp_gt (tgt := 26) dX12_look_16 (by decide) (fun c2 => ?_) (fun c2 => ?_)
    ·
      refine sx_iload_n dX12_look_26 rfl ?_
      refine sx_iconst dX12_look_27 ⟨by decide, by decide⟩ ?_
      refine sx_icmp_ne (tgt := 58) dX12_look_28 (by decide) (fun c3 => ?_) (fun c3 => ?_)
      ·
        refine sx_iload_n dX12_look_58 rfl ?_
        refine sx_bipush dX12_look_59 ⟨by decide, by decide, by decide⟩ ?_
        refine sx_icmp_ne (tgt := 84) dX12_look_61 (by decide) (fun c4 => ?_) (fun c4 => ?_)
        ·
          refine sx_iload_n dX12_look_84 rfl ?_
          refine sx_iconst dX12_look_85 ⟨by decide, by decide⟩ ?_
          refine sx_icmp_ne (tgt := 207) dX12_look_86 (by decide) (fun c5 => ?_) (fun c5 => ?_)
          ·
            refine sx_aload_n dX12_look_207 rfl ?_
            refine sx_iload_n dX12_look_208 rfl ?_
            refine sx_iload_n dX12_look_209 rfl ?_
            have bb : (b : Int) ≤ 1 ∧ 0 ≤ (b : Int) := by omega
            have eo : h0 253 (h0 224 55).toNat = h0 253 (h0 224 55).toNat := by rfl
            have eo252 : h0 252 (h0 224 55).toNat = h0 252 (h0 224 55).toNat := by rfl
            have eo254 : h0 254 (h0 224 55).toNat = h0 254 (h0 224 55).toNat := by rfl
            have eo255 : h0 255 (h0 224 55).toNat = h0 255 (h0 224 55).toNat := by rfl
            have eo256 : h0 256 (h0 224 55).toNat = h0 256 (h0 224 55).toNat := by rfl
            have eo257 : h0 257 (h0 224 55).toNat = h0 257 (h0 224 55).toNat := by rfl
            refine sx_callVi lk_X12_437 cl_12 s_224 (by decide) dX12_look_210 (vs := [_, _]) rfl rfl (Nat.le_of_ble_eq_true rfl) (Nat.le_of_ble_eq_true rfl) rfl (c_X12_close_7 _ hI.1 b _ (by omega) (by omega) (by rw [eo]; omega)) (fun x7 h6 ph6 => ?_)
            obtain ⟨Kh6, c_h6, x_h6, g_h6⟩ := ph6
            have Ih6 := hI.tr Kh6 (prB_sub rfl rfl)
            have th6_224_51 := Kh6.2 224 51 rfl
            have th6_224_52 := Kh6.2 224 52 rfl
            have th6_224_53 := Kh6.2 224 53 rfl
            have th6_224_54 := Kh6.2 224 54 rfl
            have th6_224_56 := Kh6.2 224 56 rfl
            have th6_224_57 := Kh6.2 224 57 rfl
            rw [eo252, eo254, eo255, eo256, eo257] at x_h6
            rw [eo] at g_h6
            refine sx_ireturn dX12_look_213 ?_
            exact ⟨_, rfl, ⟨Ih6, by omega, by omega, by omega, fun k => by rw [show h6 252 k = _ from Kh6.2 252 k rfl], fun k => by rw [show h6 253 k = _ from Kh6.2 253 k rfl], fun k => by rw [show h6 254 k = _ from Kh6.2 254 k rfl], fun k => by rw [show h6 255 k = _ from Kh6.2 255 k rfl], fun k => by rw [show h6 256 k = _ from Kh6.2 256 k rfl], fun k => by rw [show h6 257 k = _ from Kh6.2 257 k rfl], fun k => by rw [g_h6 k]; all_goals (try simp only [Nat.reduceEqDiff, false_and, if_false, true_and]); all_goals (try rw [eo]); all_goals (by_cases q1 : (k : Int) = y3; (rw [if_pos (by omega), if_pos q1]); (rw [if_neg (by omega), if_neg q1]; by_cases q2 : (k : Int) = h0 253 (h0 224 55).toNat; (rw [if_pos (by omega), if_pos q2]); (rw [if_neg (by omega), if_neg q2]; all_goals (first | rfl | rw [if_neg (by omega)]))))⟩⟩
          ·
            exact absurd c5 (by decide)
        ·
          exact absurd c4 (by decide)
      ·
        exact absurd c3 (by decide)
    ·
      exact absurd c2 (by decide)
  ·
    refine sx_aload_n dX12_look_7 rfl ?_
    refine sx_getS (k := 27) (t := 243) cl_12 fl_X12_69 dX12_look_8 s_224 (by decide) rfl (by decide) ?_
    refine sx_iload_n dX12_look_11 rfl ?_
    refine sx_iconst dX12_look_12 ⟨by decide, by decide⟩ ?_
    refine sy_iastore dX12_look_13 s_243 (by decide) (by decide) ⟨by omega, by omega⟩ (fun h8 eh8 => ?_)
    have Ih8 := hI.up eh8 (show (-1 : Int) ≤ _ ∧ _ ≤ (119 : Int) from ⟨by omega, by omega⟩) (decide_eq_false (show ¬ (60 * b ≤ _ ∧ _ < 60 * b + 60) by omega))
    have th8_224_51 := eh8.2 (224) 51 (by omega)
    have th8_224_52 := eh8.2 (224) 52 (by omega)
    have th8_224_53 := eh8.2 (224) 53 (by omega)
    have th8_224_54 := eh8.2 (224) 54 (by omega)
    have th8_224_55 := eh8.2 (224) 55 (by omega)
    have th8_224_56 := eh8.2 (224) 56 (by omega)
    have th8_224_57 := eh8.2 (224) 57 (by omega)
    refine sx_iload_n dX12_look_14 rfl ?_
    refine sx_iconst dX12_look_15 ⟨by decide, by decide⟩ ?_
    refine sx_icmp_gt (tgt := 26) dX12_look_16 (by decide) (fun c9 => ?_) (fun c9 => ?_)
    ·
      refine sx_iload_n dX12_look_26 rfl ?_
      refine sx_iconst dX12_look_27 ⟨by decide, by decide⟩ ?_
      refine sx_icmp_ne (tgt := 58) dX12_look_28 (by decide) (fun c10 => ?_) (fun c10 => ?_)
      ·
        refine sx_iload_n dX12_look_58 rfl ?_
        refine sx_bipush dX12_look_59 ⟨by decide, by decide, by decide⟩ ?_
        refine sx_icmp_ne (tgt := 84) dX12_look_61 (by decide) (fun c11 => ?_) (fun c11 => ?_)
        ·
          refine sx_iload_n dX12_look_84 rfl ?_
          refine sx_iconst dX12_look_85 ⟨by decide, by decide⟩ ?_
          refine sx_icmp_ne (tgt := 207) dX12_look_86 (by decide) (fun c12 => ?_) (fun c12 => ?_)
          ·
            refine sx_aload_n dX12_look_207 rfl ?_
            refine sx_iload_n dX12_look_208 rfl ?_
            refine sx_iload_n dX12_look_209 rfl ?_
            have bb : (b : Int) ≤ 1 ∧ 0 ≤ (b : Int) := by omega
            have eo : h8 253 (h8 224 55).toNat = h0 253 (h0 224 55).toNat := by rw [show (h8 224 55).toNat = (h0 224 55).toNat by omega]; all_goals rw [eh8.2 253 _ (by omega)]
            have eo252 : h8 252 (h8 224 55).toNat = h0 252 (h0 224 55).toNat := by rw [show (h8 224 55).toNat = (h0 224 55).toNat by omega]; all_goals rw [eh8.2 252 _ (by omega)]
            have eo254 : h8 254 (h8 224 55).toNat = h0 254 (h0 224 55).toNat := by rw [show (h8 224 55).toNat = (h0 224 55).toNat by omega]; all_goals rw [eh8.2 254 _ (by omega)]
            have eo255 : h8 255 (h8 224 55).toNat = h0 255 (h0 224 55).toNat := by rw [show (h8 224 55).toNat = (h0 224 55).toNat by omega]; all_goals rw [eh8.2 255 _ (by omega)]
            have eo256 : h8 256 (h8 224 55).toNat = h0 256 (h0 224 55).toNat := by rw [show (h8 224 55).toNat = (h0 224 55).toNat by omega]; all_goals rw [eh8.2 256 _ (by omega)]
            have eo257 : h8 257 (h8 224 55).toNat = h0 257 (h0 224 55).toNat := by rw [show (h8 224 55).toNat = (h0 224 55).toNat by omega]; all_goals rw [eh8.2 257 _ (by omega)]
            refine sx_callVi lk_X12_437 cl_12 s_224 (by decide) dX12_look_210 (vs := [_, _]) rfl rfl (Nat.le_of_ble_eq_true rfl) (Nat.le_of_ble_eq_true rfl) rfl (c_X12_close_7 _ Ih8.1 b _ (by omega) (by omega) (by rw [eo]; omega)) (fun x14 h13 ph13 => ?_)
            obtain ⟨Kh13, c_h13, x_h13, g_h13⟩ := ph13
            have Ih13 := Ih8.tr Kh13 (prB_sub rfl rfl)
            have th13_224_51 := Kh13.2 224 51 rfl
            have th13_224_52 := Kh13.2 224 52 rfl
            have th13_224_53 := Kh13.2 224 53 rfl
            have th13_224_54 := Kh13.2 224 54 rfl
            have th13_224_56 := Kh13.2 224 56 rfl
            have th13_224_57 := Kh13.2 224 57 rfl
            rw [eo252, eo254, eo255, eo256, eo257] at x_h13
            rw [eo] at g_h13
            refine sx_ireturn dX12_look_213 ?_
            exact ⟨_, rfl, ⟨Ih13, by omega, by omega, by omega, fun k => by rw [show h13 252 k = _ from Kh13.2 252 k rfl, eh8.2 252 k (by omega)], fun k => by rw [show h13 253 k = _ from Kh13.2 253 k rfl, eh8.2 253 k (by omega)], fun k => by rw [show h13 254 k = _ from Kh13.2 254 k rfl, eh8.2 254 k (by omega)], fun k => by rw [show h13 255 k = _ from Kh13.2 255 k rfl, eh8.2 255 k (by omega)], fun k => by rw [show h13 256 k = _ from Kh13.2 256 k rfl, eh8.2 256 k (by omega)], fun k => by rw [show h13 257 k = _ from Kh13.2 257 k rfl, eh8.2 257 k (by omega)], fun k => by rw [g_h13 k, eh8.at 243 k]; all_goals (try simp only [Nat.reduceEqDiff, false_and, if_false, true_and]); all_goals (try rw [eo]); all_goals (by_cases q1 : (k : Int) = y3; (rw [if_pos (by omega), if_pos q1]); (rw [if_neg (by omega), if_neg q1]; by_cases q2 : (k : Int) = h0 253 (h0 224 55).toNat; (rw [if_pos (by omega), if_pos q2]); (rw [if_neg (by omega), if_neg q2]; all_goals (first | rfl | rw [if_neg (by omega)]))))⟩⟩
          ·
            exact absurd c12 (by decide)
        ·
          exact absurd c11 (by decide)
      ·
        exact absurd c10 (by decide)
    ·
      exact absurd c9 (by decide)

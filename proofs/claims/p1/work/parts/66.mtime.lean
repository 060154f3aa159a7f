-- ===== time and room =====
theorem dpt_step {c : Nat → Int} {F k : Int} (h0 : 0 ≤ F) (h1 : F ≤ k) : dpt c F.toNat (k + 1 - F).toNat = dpt c F.toNat (k - F).toNat + dw (c k.toNat) := by
  rw [show (k + 1 - F).toNat = (k - F).toNat + 1 by omega]
  show dpt c F.toNat (k - F).toNat + dw (c (F.toNat + (k - F).toNat)) = _
  rw [show F.toNat + (k - F).toNat = k.toNat by omega]
theorem mC_RR {h : sw_H} (hC : mC h) (hJ : mI h) : RR h (h 224 36) := by
  have r : (0 : Int) ≤ h 224 36 ∧ h 224 36 ≤ 1 := hJ 224 36
  by_cases q : h 224 36 = 0
  · rw [q]; exact hC.1
  · rw [show h 224 36 = 1 by omega]; exact hC.2.1
theorem rS_cd {h h1 : sw_H} (e : cdK h h1) : rS h1 = rS h := by
  funext r w j
  unfold rS rF
  rw [e 233 _ rfl, e 240 _ rfl]
theorem tT_lens {s : Nat → Int} {j : Nat} (hS : tS s j) : (s j = 3 ∨ s j = 6 → (tT s j).length ≤ 3 ∧ (tT s (j + 1)).length = (tT s j).length + 1) ∧ (s j = 4 → (tT s (j + 1)).length = (tT s j).length) ∧ (s j = 5 ∨ s j = 7 → 1 ≤ (tT s j).length ∧ (tT s (j + 1)).length + 1 = (tT s j).length) ∧ (s j ≠ 3 ∧ s j ≠ 4 ∧ s j ≠ 5 ∧ s j ≠ 6 ∧ s j ≠ 7 → (tT s (j + 1)).length = (tT s j).length) := by
  obtain ⟨k1, k2, k3, k4⟩ := hS
  refine ⟨fun q => ⟨k4 q, by rw [tT_open q]; rfl⟩, fun q => ?_, fun q => ?_, fun q => by rw [tT_flat q]⟩
  · obtain ⟨p, r, e, -⟩ := k1 q
    rw [tT_else q, e]; rfl
  · have : ∃ p r, tT s j = p :: r := by
      rcases q with q | q
      · obtain ⟨p, r, e, -⟩ := k2 q; exact ⟨p, r, e⟩
      · obtain ⟨p, r, e, -⟩ := k3 q; exact ⟨p, r, e⟩
    obtain ⟨p, r, e⟩ := this
    rw [tT_shut q, e]
    exact ⟨by rw [List.length_cons]; omega, rfl⟩
/-- what is known of an ITEM of the CODE -/
def itP (h : sw_H) (w i n : Int) : Prop := n = 60 * h 224 36 + h 233 (6 * h 224 36 + w).toNat + i ∧ 0 ≤ n ∧ n < 120 ∧ 0 ≤ h 240 n.toNat ∧ h 240 n.toNat ≤ 7 ∧ (h 240 n.toNat = 2 → 0 ≤ h 241 n.toNat ∧ h 241 n.toNat < 6) ∧ (h 240 n.toNat = 7 → 0 ≤ h 243 n.toNat) ∧ ((tT (rS h (h 224 36) w) i.toNat).length : Int) ≤ 4 ∧
  ((h 240 n.toNat = 3 ∨ h 240 n.toNat = 6) → ((tT (rS h (h 224 36) w) i.toNat).length : Int) ≤ 3 ∧ ((tT (rS h (h 224 36) w) (i + 1).toNat).length : Int) = ((tT (rS h (h 224 36) w) i.toNat).length : Int) + 1) ∧ ((h 240 n.toNat = 5 ∨ h 240 n.toNat = 7) → 1 ≤ ((tT (rS h (h 224 36) w) i.toNat).length : Int) ∧ ((tT (rS h (h 224 36) w) (i + 1).toNat).length : Int) = ((tT (rS h (h 224 36) w) i.toNat).length : Int) - 1) ∧ (¬ (h 240 n.toNat = 3 ∨ h 240 n.toNat = 6 ∨ h 240 n.toNat = 5 ∨ h 240 n.toNat = 7) → ((tT (rS h (h 224 36) w) (i + 1).toNat).length : Int) = ((tT (rS h (h 224 36) w) i.toNat).length : Int))
theorem it_P {h : sw_H} (hC : mC h) (hJ : mI h) {w i : Int} (w0 : 0 ≤ w) (w1 : w < h 227 (h 224 36).toNat) (i0 : 0 ≤ i) (i1 : i < h 234 (6 * h 224 36 + w).toNat) : itP h w i (60 * h 224 36 + h 233 (6 * h 224 36 + w).toNat + i) := by
  obtain ⟨m1, m2, m3, m4⟩ := mC_w hC hJ w0 w1
  have rb : (0 : Int) ≤ h 224 36 ∧ h 224 36 ≤ 1 := hJ 224 36
  obtain ⟨-, b1, b2, b3, b4, b5⟩ := hC.2.2 w w0 w1
  have hlt : i.toNat < (rN h (h 224 36) w).toNat := by unfold rN; omega
  obtain ⟨c1, c2, c3⟩ := b3 i.toNat hlt
  have ei : ((i.toNat : Nat) : Int) = i := by omega
  have eS : rS h (h 224 36) w i.toNat = h 240 (60 * h 224 36 + h 233 (6 * h 224 36 + w).toNat + i).toNat := by unfold rS rF; rw [ei]
  have eV : rV h (h 224 36) w i.toNat = h 241 (60 * h 224 36 + h 233 (6 * h 224 36 + w).toNat + i).toNat := by unfold rV rF; rw [ei]
  have eG : rG h (h 224 36) w i.toNat = h 243 (60 * h 224 36 + h 233 (6 * h 224 36 + w).toNat + i).toNat - (60 * h 224 36 + h 233 (6 * h 224 36 + w).toNat) := by unfold rG rF; rw [ei]
  have hl := tT_len (fun j hj => (b3 j hj).2.1) i.toNat (by omega)
  obtain ⟨t1, t2, t3, t4⟩ := tT_lens c2
  have e1 : (i + 1).toNat = i.toNat + 1 := by omega
  obtain ⟨d1, d2, d3, d4, d5⟩ := c1
  rw [eS] at t1 t2 t3 t4 d1 d2 d3 d4
  rw [eV] at d4
  unfold itP
  rw [e1]
  refine ⟨rfl, by omega, by omega, d1, d2, fun q => ?_, fun q => ?_, by omega, fun q => ?_, fun q => ?_, fun q => ?_⟩
  · have := d4 q; omega
  · obtain ⟨p, r, e⟩ : ∃ p r, tT (rS h (h 224 36) w) i.toNat = p :: r := by
      have := (t3 (Or.inr q)).1
      cases ht : tT (rS h (h 224 36) w) i.toNat with
      | nil => rw [ht] at this; simp at this
      | cons p r => exact ⟨p, r, rfl⟩
    have g := (c3.2 (Or.inr (by rw [eS]; exact q)) p r e).2
    rw [eG] at g
    omega
  · have := t1 q; omega
  · have := t3 q; omega
  · by_cases q4 : h 240 (60 * h 224 36 + h 233 (6 * h 224 36 + w).toNat + i).toNat = 4
    · have := t2 q4; omega
    · have := t4 (by omega); omega
set_option maxRecDepth 20000 in
set_option maxHeartbeats 4000000 in
theorem c_X12_comesTo {G : sw_G} (d : Nat) {h0 : sw_H} (hJ : mI h0) (hR : RR h0 (h0 224 36))  : sw_E G NH SH (d + 1) mX12_comesTo 0 [some (sw_r 224), none, none, none] [] h0 (sw_Qi (fun z h' => mK (prW [] [251]) h0 h')) := by
  have hI : mK (prW [] [251]) h0 h0 := mK.refl hJ
  refine sx_iconst dX12_comesTo_0 ⟨by decide, by decide⟩ ?_
  refine sx_istore_n dX12_comesTo_1 (by decide) ?_
  refine sx_aload_n dX12_comesTo_2 rfl ?_
  refine sx_getS (k := 28) (t := 244) cl_12 fl_X12_72 dX12_comesTo_3 s_224 (by decide) rfl (by decide) ?_
  refine sx_aload_n dX12_comesTo_6 rfl ?_
  refine sx_getI (k := 36) cl_12 fl_X12_349 dX12_comesTo_7 s_224 (by decide) rfl (by decide) ?_
  have r1 : (0 : Int) ≤ h0 224 36 ∧ h0 224 36 ≤ 1 := hI.1 224 36
  refine sx_iaload dX12_comesTo_10 s_244 (by decide) (by decide) ⟨by omega, by omega⟩ ?_
  refine sy_top (fun v2 ev2 => ?_)
  refine sx_istore_n dX12_comesTo_11 (by decide) ?_
  have jn0 : (0 : Int) = dpt (h0 247) (h0 244 (h0 224 36).toNat).toNat (v2 - h0 244 (h0 224 36).toNat).toNat := by rw [show (v2 - h0 244 (h0 224 36).toNat).toNat = 0 by omega]; rfl
  refine sx_loop2 (fun (h : sw_H) (n : Int) (k : Int) => (mK (prW [] [251]) h0 h) ∧ (h0 244 (h0 224 36).toNat ≤ k) ∧ (n = dpt (h0 247) (h0 244 (h0 224 36).toNat).toNat (k - h0 244 (h0 224 36).toNat).toNat) ∧ (0 ≤ n)) (fun (h : sw_H) (n : Int) (k : Int) => (h0 245 (h0 224 36).toNat - k).toNat) (fun (h : sw_H) (n : Int) (k : Int) => sw_E G NH SH (d + 1) mX12_comesTo 12 [some (sw_r 224), some (sw_i n), some (sw_i k), none] [] h (sw_Qi (fun z h' => mK (prW [] [251]) h0 h'))) ?_ _ _ _ ?_
  · rintro h3 n_4 k_5 ⟨Ih3, jk, jn, j0⟩ ihh3
    try dsimp only at ihh3
    have eT : h3 245 (h3 224 36).toNat = h0 245 (h0 224 36).toNat := by rw [Ih3.2 224 36 rfl, Ih3.2 245 _ rfl]
    have rb36 : (0 : Int) ≤ h3 224 36 ∧ h3 224 36 ≤ 1 := Ih3.1 224 36
    have e36 : h3 224 36 = h0 224 36 := Ih3.2 224 36 rfl
    refine sx_iload_n dX12_comesTo_12 rfl ?_
    refine sx_aload_n dX12_comesTo_13 rfl ?_
    refine sx_getS (k := 29) (t := 245) cl_12 fl_X12_75 dX12_comesTo_14 s_224 (by decide) rfl (by decide) ?_
    refine sx_aload_n dX12_comesTo_17 rfl ?_
    refine sx_getI (k := 36) cl_12 fl_X12_349 dX12_comesTo_18 s_224 (by decide) rfl (by decide) ?_
    have r6 : (0 : Int) ≤ h3 224 36 ∧ h3 224 36 ≤ 1 := Ih3.1 224 36
    refine sx_iaload dX12_comesTo_21 s_245 (by decide) (by decide) ⟨by omega, by omega⟩ ?_
    refine sx_icmp_ge (tgt := 130) dX12_comesTo_22 (by decide) (fun c7 => ?_) (fun c7 => ?_)
    ·
      refine sx_aload_n dX12_comesTo_130 rfl ?_
      refine sx_getS (k := 35) (t := 251) cl_12 fl_X12_94 dX12_comesTo_131 s_224 (by decide) rfl (by decide) ?_
      refine sx_iconst dX12_comesTo_134 ⟨by decide, by decide⟩ ?_
      refine sx_iaload dX12_comesTo_135 s_251 (by decide) (by decide) ⟨by omega, by omega⟩ ?_
      refine sx_ireturn dX12_comesTo_136 ?_
      exact ⟨_, rfl, Ih3⟩
    ·
      obtain ⟨rq1, rq2, rq3⟩ := hR (by omega)
      have dk := rq3 (k_5 - h0 244 (h0 224 36).toNat).toNat (by omega)
      rw [show (h0 244 (h0 224 36).toNat).toNat + (k_5 - h0 244 (h0 224 36).toNat).toNat = (k_5).toNat by omega, ← jn] at dk
      obtain ⟨dk1, dk2, dk3, dk4⟩ := dk
      refine sx_aload_n dX12_comesTo_25 rfl ?_
      refine sx_getS (k := 31) (t := 247) cl_12 fl_X12_82 dX12_comesTo_26 s_224 (by decide) rfl (by decide) ?_
      refine sx_iload_n dX12_comesTo_29 rfl ?_
      refine sx_iaload dX12_comesTo_30 s_247 (by decide) (by decide) ⟨by omega, by omega⟩ ?_
      refine sy_top (fun v8 ev8 => ?_)
      refine sx_istore_n dX12_comesTo_31 (by decide) ?_
      have c0 : v8 = h0 247 (k_5).toNat := by rw [ev8]; exact Ih3.2 247 _ rfl
      refine sx_iload_n dX12_comesTo_32 rfl ?_
      refine sx_bipush dX12_comesTo_33 ⟨by decide, by decide, by decide⟩ ?_
      refine sx_icmp_ne (tgt := 65) dX12_comesTo_35 (by decide) (fun c9 => ?_) (fun c9 => ?_)
      ·
        refine sx_iload_n dX12_comesTo_65 rfl ?_
        refine sx_callSz lk_X12_305 dX12_comesTo_66 (vs := [_]) rfl rfl (Nat.le_of_ble_eq_true rfl) (Nat.le_of_ble_eq_true rfl) rfl (c_X12_isLetter _ Ih3.1 _) (fun x11 h10 zx11 ph10 => ?_)
        obtain ⟨rfl, p_x11⟩ := ph10
        refine sx_if_eq (tgt := 95) dX12_comesTo_69 (by decide) (fun c12 => ?_) (fun c12 => ?_)
        ·
          replace p_x11 := mt p_x11.mpr (show ¬ (x11 = 1) by rw [c12]; decide)
          clear zx11
          have n2 : 2 ≤ n_4 := dk2 (by rw [← c0]; exact ⟨by omega, by omega⟩)
          refine sx_iinc dX12_comesTo_95 (by decide) rfl ?_
          rw [sw_w_id (by omega) (by omega)]
          refine sx_aload_n dX12_comesTo_98 rfl ?_
          refine sx_getS (k := 35) (t := 251) cl_12 fl_X12_94 dX12_comesTo_99 s_224 (by decide) rfl (by decide) ?_
          refine sx_iload_n dX12_comesTo_102 rfl ?_
          refine sx_iconst dX12_comesTo_103 ⟨by decide, by decide⟩ ?_
          refine sx_isub dX12_comesTo_104 ?_
          refine sy_topw (by omega) ?_
          refine sx_iload_n dX12_comesTo_105 rfl ?_
          refine sx_aload_n dX12_comesTo_106 rfl ?_
          refine sx_getS (k := 35) (t := 251) cl_12 fl_X12_94 dX12_comesTo_107 s_224 (by decide) rfl (by decide) ?_
          refine sx_iload_n dX12_comesTo_110 rfl ?_
          refine sx_iconst dX12_comesTo_111 ⟨by decide, by decide⟩ ?_
          refine sx_isub dX12_comesTo_112 ?_
          refine sy_topw (by omega) ?_
          refine sx_iaload dX12_comesTo_113 s_251 (by decide) (by decide) ⟨by omega, by omega⟩ ?_
          refine sx_aload_n dX12_comesTo_114 rfl ?_
          refine sx_getS (k := 35) (t := 251) cl_12 fl_X12_94 dX12_comesTo_115 s_224 (by decide) rfl (by decide) ?_
          refine sx_iload_n dX12_comesTo_118 rfl ?_
          refine sx_iaload dX12_comesTo_119 s_251 (by decide) (by decide) ⟨by omega, by omega⟩ ?_
          refine sx_callSi lk_X12_494 dX12_comesTo_120 (vs := [_, _, _]) rfl rfl (Nat.le_of_ble_eq_true rfl) (Nat.le_of_ble_eq_true rfl) rfl (c_X12_two _ Ih3.1 _ _ _) (fun x14 h13 ph13 => ?_)
          subst ph13
          refine sy_iastore dX12_comesTo_123 s_251 (by decide) (by decide) ⟨by omega, by omega⟩ (fun h15 eh15 => ?_)
          have Ih15 := Ih3.up eh15 trivial rfl
          have jn2 : (n_4 + (-1)) = dpt (h0 247) (h0 244 (h0 224 36).toNat).toNat (k_5 + 1 - h0 244 (h0 224 36).toNat).toNat := by rw [dpt_step (by omega) (by omega), ← jn, ← c0]; unfold dw; (repeat' split) <;> omega
          refine sx_iinc dX12_comesTo_124 (by decide) rfl ?_
          rw [sw_w_id (by omega) (by omega)]
          refine sx_goto (tgt := 12) dX12_comesTo_127 (by decide) ?_
          refine sx_kill 3 ?_
          exact ihh3 _ _ _ ⟨Ih15, by omega, by exact jn2, by omega⟩ (by exact sy_dec (by omega) (by omega))
        ·
          have vx11 : x11 = 1 := by rcases zx11 with q | q; (exact absurd q c12); exact q
          replace p_x11 := p_x11.mp vx11
          clear zx11
          refine sx_aload_n dX12_comesTo_72 rfl ?_
          refine sx_getS (k := 35) (t := 251) cl_12 fl_X12_94 dX12_comesTo_73 s_224 (by decide) rfl (by decide) ?_
          refine sx_iload_n dX12_comesTo_76 rfl ?_
          refine sx_aload_n dX12_comesTo_77 rfl ?_
          refine sx_iload_n dX12_comesTo_78 rfl ?_
          refine sx_aload_n dX12_comesTo_79 rfl ?_
          refine sx_getS (k := 32) (t := 248) cl_12 fl_X12_85 dX12_comesTo_80 s_224 (by decide) rfl (by decide) ?_
          refine sx_iload_n dX12_comesTo_83 rfl ?_
          refine sx_iaload dX12_comesTo_84 s_248 (by decide) (by decide) ⟨by omega, by omega⟩ ?_
          refine sx_callVi lk_X12_491 cl_12 s_224 (by decide) dX12_comesTo_85 (vs := [_, _]) rfl rfl (Nat.le_of_ble_eq_true rfl) (Nat.le_of_ble_eq_true rfl) rfl (c_X12_asked _ Ih3.1 _ _) (fun x17 h16 ph16 => ?_)
          subst ph16
          refine sy_iastore dX12_comesTo_88 s_251 (by decide) (by decide) ⟨by omega, by omega⟩ (fun h18 eh18 => ?_)
          have Ih18 := Ih3.up eh18 trivial rfl
          refine sx_iinc dX12_comesTo_89 (by decide) rfl ?_
          rw [sw_w_id (by omega) (by omega)]
          refine sx_goto (tgt := 124) dX12_comesTo_92 (by decide) ?_
          have jn2 : (n_4 + 1) = dpt (h0 247) (h0 244 (h0 224 36).toNat).toNat (k_5 + 1 - h0 244 (h0 224 36).toNat).toNat := by rw [dpt_step (by omega) (by omega), ← jn, ← c0]; unfold dw; (repeat' split) <;> omega
          refine sx_iinc dX12_comesTo_124 (by decide) rfl ?_
          rw [sw_w_id (by omega) (by omega)]
          refine sx_goto (tgt := 12) dX12_comesTo_127 (by decide) ?_
          refine sx_kill 3 ?_
          exact ihh3 _ _ _ ⟨Ih18, by omega, by exact jn2, by omega⟩ (by exact sy_dec (by omega) (by omega))
      ·
        have n1 := dk1 (by omega)
        refine sx_aload_n dX12_comesTo_38 rfl ?_
        refine sx_getS (k := 35) (t := 251) cl_12 fl_X12_94 dX12_comesTo_39 s_224 (by decide) rfl (by decide) ?_
        refine sx_iload_n dX12_comesTo_42 rfl ?_
        refine sx_iconst dX12_comesTo_43 ⟨by decide, by decide⟩ ?_
        refine sx_isub dX12_comesTo_44 ?_
        refine sy_topw (by omega) ?_
        refine sx_aload_n dX12_comesTo_45 rfl ?_
        refine sx_getS (k := 35) (t := 251) cl_12 fl_X12_94 dX12_comesTo_46 s_224 (by decide) rfl (by decide) ?_
        refine sx_iload_n dX12_comesTo_49 rfl ?_
        refine sx_iconst dX12_comesTo_50 ⟨by decide, by decide⟩ ?_
        refine sx_isub dX12_comesTo_51 ?_
        refine sy_topw (by omega) ?_
        refine sx_iaload dX12_comesTo_52 s_251 (by decide) (by decide) ⟨by omega, by omega⟩ ?_
        refine sx_if_ne (tgt := 60) dX12_comesTo_53 (by decide) (fun c19 => ?_) (fun c19 => ?_)
        ·
          refine sx_iconst dX12_comesTo_60 ⟨by decide, by decide⟩ ?_
          refine sy_iastore dX12_comesTo_61 s_251 (by decide) (by decide) ⟨by omega, by omega⟩ (fun h20 eh20 => ?_)
          have Ih20 := Ih3.up eh20 trivial rfl
          refine sx_goto (tgt := 124) dX12_comesTo_62 (by decide) ?_
          have jn2 : n_4 = dpt (h0 247) (h0 244 (h0 224 36).toNat).toNat (k_5 + 1 - h0 244 (h0 224 36).toNat).toNat := by rw [dpt_step (by omega) (by omega), ← jn, ← c0]; unfold dw; (repeat' split) <;> omega
          refine sx_iinc dX12_comesTo_124 (by decide) rfl ?_
          rw [sw_w_id (by omega) (by omega)]
          refine sx_goto (tgt := 12) dX12_comesTo_127 (by decide) ?_
          refine sx_kill 3 ?_
          exact ihh3 _ _ _ ⟨Ih20, by omega, by exact jn2, by omega⟩ (by exact sy_dec (by omega) (by omega))
        ·
          refine sx_iconst dX12_comesTo_56 ⟨by decide, by decide⟩ ?_
          refine sx_goto (tgt := 61) dX12_comesTo_57 (by decide) ?_
          refine sy_iastore dX12_comesTo_61 s_251 (by decide) (by decide) ⟨by omega, by omega⟩ (fun h21 eh21 => ?_)
          have Ih21 := Ih3.up eh21 trivial rfl
          refine sx_goto (tgt := 124) dX12_comesTo_62 (by decide) ?_
          have jn2 : n_4 = dpt (h0 247) (h0 244 (h0 224 36).toNat).toNat (k_5 + 1 - h0 244 (h0 224 36).toNat).toNat := by rw [dpt_step (by omega) (by omega), ← jn, ← c0]; unfold dw; (repeat' split) <;> omega
          refine sx_iinc dX12_comesTo_124 (by decide) rfl ?_
          rw [sw_w_id (by omega) (by omega)]
          refine sx_goto (tgt := 12) dX12_comesTo_127 (by decide) ?_
          refine sx_kill 3 ?_
          exact ihh3 _ _ _ ⟨Ih21, by omega, by exact jn2, by omega⟩ (by exact sy_dec (by omega) (by omega))
  · exact ⟨hI, by omega, by exact jn0, by omega⟩
set_option maxRecDepth 20000 in
set_option maxHeartbeats 4000000 in
theorem c_X12_takesOf {G : sw_G} (d : Nat) {h0 : sw_H} (hJ : mI h0) (y1 y2 : Int) (hC : mC h0)  : sw_E G NH SH (d + 2) mX12_takesOf 0 [some (sw_r 224), some (sw_i y1), some (sw_i y2)] [] h0 (sw_Qi (fun z h' => mK (prW [59, 60] [251]) h0 h' ∧ ((h0 224 85 < 0 → y1 = 0 → 0 ≤ z ∧ z ≤ 99)))) := by
  have hI : mK (prW [59, 60] [251]) h0 h0 := mK.refl hJ
  refine sx_aload_n dX12_takesOf_0 rfl ?_
  refine sx_getI (k := 85) cl_12 fl_X12_169 dX12_takesOf_1 s_224 (by decide) rfl (by decide) ?_
  refine sx_if_lt (tgt := 12) dX12_takesOf_4 (by decide) (fun c1 => ?_) (fun c1 => ?_)
  ·
    refine sx_aload_n dX12_takesOf_12 rfl ?_
    refine sx_iload_n dX12_takesOf_13 rfl ?_
    refine sy_putI (k := 59) cl_12 fl_X12_485 dX12_takesOf_14 s_224 (by decide) rfl (by decide) rfl rfl (fun h2 eh2 => ?_)
    have Ih2 := hI.up eh2 trivial rfl
    have th2_224_85 := eh2.2 (224) 85 (by decide)
    refine sx_aload_n dX12_takesOf_17 rfl ?_
    refine sx_iload_n dX12_takesOf_18 rfl ?_
    refine sy_putI (k := 60) cl_12 fl_X12_488 dX12_takesOf_19 s_224 (by decide) rfl (by decide) rfl rfl (fun h3 eh3 => ?_)
    have Ih3 := Ih2.up eh3 trivial rfl
    have th3_224_85 := eh3.2 (224) 85 (by decide)
    refine sx_aload_n dX12_takesOf_22 rfl ?_
    refine sx_getS (k := 16) (t := 232) cl_12 fl_X12_36 dX12_takesOf_23 s_224 (by decide) rfl (by decide) ?_
    refine sx_aload_n dX12_takesOf_26 rfl ?_
    refine sx_getI (k := 36) cl_12 fl_X12_349 dX12_takesOf_27 s_224 (by decide) rfl (by decide) ?_
    have r4 : (0 : Int) ≤ h3 224 36 ∧ h3 224 36 ≤ 1 := Ih3.1 224 36
    refine sx_iaload dX12_takesOf_30 s_232 (by decide) (by decide) ⟨by omega, by omega⟩ ?_
    refine sx_iconst dX12_takesOf_31 ⟨by decide, by decide⟩ ?_
    refine sx_callSz lk_X12_358 dX12_takesOf_32 (vs := [_, _]) rfl rfl (Nat.le_of_ble_eq_true rfl) (Nat.le_of_ble_eq_true rfl) rfl (c_X12_bit _ Ih3.1 _ _) (fun x6 h5 zx6 ph5 => ?_)
    subst ph5
    refine sx_if_eq (tgt := 51) dX12_takesOf_35 (by decide) (fun c7 => ?_) (fun c7 => ?_)
    ·
      clear zx6
      refine sx_iconst dX12_takesOf_51 ⟨by decide, by decide⟩ ?_
      refine sx_iload_n dX12_takesOf_52 rfl ?_
      refine sx_iadd dX12_takesOf_53 ?_
      refine sx_ireturn dX12_takesOf_54 ?_
      exact ⟨_, rfl, ⟨Ih3, fun q1 q2 => by first | omega | (rw [sw_w_id (by omega) (by omega)]; omega)⟩⟩
    ·
      have vx6 : x6 = 1 := by rcases zx6 with q | q; (exact absurd q c7); exact q
      clear zx6
      refine sx_aload_n dX12_takesOf_38 rfl ?_
      refine sx_callVi lk_X12_654 cl_12 s_224 (by decide) dX12_takesOf_39 (vs := []) rfl rfl (Nat.le_of_ble_eq_true rfl) (Nat.le_of_ble_eq_true rfl) rfl (c_X12_comesTo _ Ih3.1 (mC_RR (mC_mK Ih3 rfl rfl hJ hC) Ih3.1)) (fun x9 h8 ph8 => ?_)
      have Kh8 := ph8
      have Ih8 := Ih3.tr Kh8 (prW_sub rfl rfl)
      have th8_224_85 := Kh8.2 224 85 rfl
      refine sx_iconst dX12_takesOf_42 ⟨by decide, by decide⟩ ?_
      refine sx_bipush dX12_takesOf_43 ⟨by decide, by decide, by decide⟩ ?_
      refine sx_callSi lk_X12_657 dX12_takesOf_45 (vs := [_, _, _]) rfl rfl (Nat.le_of_ble_eq_true rfl) (Nat.le_of_ble_eq_true rfl) rfl (c_X12_held _ Ih8.1 _ _ _ (by first | omega | (rw [Int.tmod_eq_emod_of_nonneg (by omega)]; omega) | (rw [Int.tdiv_eq_ediv_of_nonneg (by omega)]; omega))) (fun x11 h10 ph10 => ?_)
      obtain ⟨rfl, p_x11⟩ := ph10
      refine sx_goto (tgt := 54) dX12_takesOf_48 (by decide) ?_
      refine sx_ireturn dX12_takesOf_54 ?_
      exact ⟨_, rfl, ⟨Ih8, fun q1 q2 => by first | omega | (rw [sw_w_id (by omega) (by omega)]; omega)⟩⟩
  ·
    refine sx_aload_n dX12_takesOf_7 rfl ?_
    refine sx_getI (k := 85) cl_12 fl_X12_169 dX12_takesOf_8 s_224 (by decide) rfl (by decide) ?_
    refine sx_ireturn dX12_takesOf_11 ?_
    exact ⟨_, rfl, ⟨hI, fun q => by exfalso; omega⟩⟩
set_option maxRecDepth 20000 in
set_option maxHeartbeats 4000000 in
theorem c_X12_takes {G : sw_G} (d : Nat) {h0 : sw_H} (hJ : mI h0) (y1 y2 : Int) (hB : mB h0)  : sw_E G NH SH (d + 3) mX12_takes 0 [some (sw_r 224), some (sw_i y1), some (sw_i y2)] [] h0 (sw_Qi (fun z h' => mK (prW [59, 60] [251]) h0 h' ∧ (mB h') ∧ (h' 224 100 = h0 224 100))) := by
  have hI : mK (prW [59, 60] [251]) h0 h0 := mK.refl hJ
  refine sx_iload_n dX12_takes_0 rfl ?_
  refine sx_iconst dX12_takes_1 ⟨by decide, by decide⟩ ?_
  refine sx_iconst dX12_takes_2 ⟨by decide, by decide⟩ ?_
  refine sx_callSz lk_X12_500 dX12_takes_3 (vs := [_, _, _]) rfl rfl (Nat.le_of_ble_eq_true rfl) (Nat.le_of_ble_eq_true rfl) rfl (c_X12_isIn _ hI.1 _ _ _) (fun x2 h1 zx2 ph1 => ?_)
  obtain ⟨rfl, p_x2⟩ := ph1
  refine sx_if_eq (tgt := 28) dX12_takes_6 (by decide) (fun c3 => ?_) (fun c3 => ?_)
  ·
    replace p_x2 := mt p_x2.mpr (show ¬ (x2 = 1) by rw [c3]; decide)
    clear zx2
    refine sx_iconst dX12_takes_28 ⟨by decide, by decide⟩ ?_
    refine sx_ireturn dX12_takes_29 ?_
    exact ⟨_, rfl, ⟨hI, mB_mK hI rfl rfl hJ hB, hI.2 224 100 rfl⟩⟩
  ·
    have vx2 : x2 = 1 := by rcases zx2 with q | q; (exact absurd q c3); exact q
    replace p_x2 := p_x2.mp vx2
    clear zx2
    refine sx_iload_n dX12_takes_9 rfl ?_
    refine sx_iconst dX12_takes_10 ⟨by decide, by decide⟩ ?_
    refine sx_bipush dX12_takes_11 ⟨by decide, by decide, by decide⟩ ?_
    refine sx_callSz lk_X12_500 dX12_takes_13 (vs := [_, _, _]) rfl rfl (Nat.le_of_ble_eq_true rfl) (Nat.le_of_ble_eq_true rfl) rfl (c_X12_isIn _ hI.1 _ _ _) (fun x5 h4 zx5 ph4 => ?_)
    obtain ⟨rfl, p_x5⟩ := ph4
    refine sx_if_eq (tgt := 28) dX12_takes_16 (by decide) (fun c6 => ?_) (fun c6 => ?_)
    ·
      replace p_x5 := mt p_x5.mpr (show ¬ (x5 = 1) by rw [c6]; decide)
      clear zx5
      refine sx_iconst dX12_takes_28 ⟨by decide, by decide⟩ ?_
      refine sx_ireturn dX12_takes_29 ?_
      exact ⟨_, rfl, ⟨hI, mB_mK hI rfl rfl hJ hB, hI.2 224 100 rfl⟩⟩
    ·
      have vx5 : x5 = 1 := by rcases zx5 with q | q; (exact absurd q c6); exact q
      replace p_x5 := p_x5.mp vx5
      clear zx5
      refine sx_aload_n dX12_takes_19 rfl ?_
      refine sx_iload_n dX12_takes_20 rfl ?_
      refine sx_iload_n dX12_takes_21 rfl ?_
      refine sx_callVi lk_X12_644 cl_12 s_224 (by decide) dX12_takes_22 (vs := [_, _]) rfl rfl (Nat.le_of_ble_eq_true rfl) (Nat.le_of_ble_eq_true rfl) rfl (c_X12_takesOf _ hI.1 _ _ (hB.1)) (fun x8 h7 ph7 => ?_)
      obtain ⟨Kh7, p_h7⟩ := ph7
      have Ih7 := hI.tr Kh7 (prW_sub rfl rfl)
      have th7_224_71 := Kh7.2 224 71 rfl
      have th7_224_73 := Kh7.2 224 73 rfl
      have th7_224_74 := Kh7.2 224 74 rfl
      have th7_224_85 := Kh7.2 224 85 rfl
      have th7_224_100 := Kh7.2 224 100 rfl
      refine sx_goto (tgt := 29) dX12_takes_25 (by decide) ?_
      refine sx_ireturn dX12_takes_29 ?_
      exact ⟨_, rfl, ⟨Ih7, mB_mK Ih7 rfl rfl hJ hB, Ih7.2 224 100 rfl⟩⟩
set_option maxRecDepth 20000 in
set_option maxHeartbeats 4000000 in
theorem c_X12_addTime {G : sw_G} (d : Nat) {h0 : sw_H} (hJ : mI h0) (y1 y2 y3 y4 : Int) (hC : mC h0) (hw : 0 ≤ y1 ∧ y1 < h0 227 (h0 224 36).toNat) (hi : 0 ≤ y2 ∧ y2 < h0 234 (6 * h0 224 36 + y1).toNat) (ho : y4 = ((tT (rS h0 (h0 224 36) y1) y2.toNat).length : Int))  : sw_E G NH SH (d + 3) mX12_addTime 0 [some (sw_r 224), some (sw_i y1), some (sw_i y2), some (sw_i y3), some (sw_i y4), none, none] [] h0 (sw_Qi (fun z h' => mK (prW [59, 60] [251, 276, 277]) h0 h' ∧ (z = ((tT (rS h0 (h0 224 36) y1) (y2 + 1).toNat).length : Int)))) := by
  have hI : mK (prW [59, 60] [251, 276, 277]) h0 h0 := mK.refl hJ
  obtain ⟨wr1, wr2, wr3, wr4⟩ := mC_w hC hJ (w := y1) (by omega) (by omega)
  have rb36 : (0 : Int) ≤ h0 224 36 ∧ h0 224 36 ≤ 1 := hJ 224 36
  have IP := it_P hC hJ hw.1 hw.2 hi.1 hi.2
  have ho4 : 0 ≤ y4 := by omega
  refine sx_aload_n dX12_addTime_0 rfl ?_
  refine sx_iload_n dX12_addTime_1 rfl ?_
  refine sx_iload_n dX12_addTime_2 rfl ?_
  refine sx_callVi lk_X12_519 cl_12 s_224 (by decide) dX12_addTime_3 (vs := [_, _]) rfl rfl (Nat.le_of_ble_eq_true rfl) (Nat.le_of_ble_eq_true rfl) rfl (c_X12_itemOf _ hI.1 _ _ (by first | omega | (rw [Int.tmod_eq_emod_of_nonneg (by omega)]; omega) | (rw [Int.tdiv_eq_ediv_of_nonneg (by omega)]; omega)) (by first | omega | (rw [Int.tmod_eq_emod_of_nonneg (by omega)]; omega) | (rw [Int.tdiv_eq_ediv_of_nonneg (by omega)]; omega))) (fun x2 h1 ph1 => ?_)
  obtain ⟨rfl, p_x2⟩ := ph1
  obtain ⟨qn, -, -⟩ := p_x2
  rw [← qn] at IP
  obtain ⟨ip0, ip1, ip2, ip3, ip4, ip5, ip6, ip7, ip8, ip9, ip10⟩ := IP
  rw [← ho] at ip7 ip8 ip9 ip10
  refine sx_istore dX12_addTime_6 (by decide) ?_
  refine sx_aload_n dX12_addTime_8 rfl ?_
  refine sx_getS (k := 24) (t := 240) cl_12 fl_X12_60 dX12_addTime_9 s_224 (by decide) rfl (by decide) ?_
  refine sx_iload dX12_addTime_12 rfl ?_
  refine sy_iaF (F := fun z => (0 : Int) ≤ z ∧ z ≤ 7) dX12_addTime_14 s_240 (by decide) (by decide) ⟨by omega, by omega⟩ (hI.1 240 _) (fun r3 => ?_)
  refine sy_top (fun v4 ev4 => ?_)
  refine sx_istore dX12_addTime_15 (by decide) ?_
  have e6 : v4 = h0 240 (x2).toNat := ev4
  rw [← e6] at ip3 ip4 ip5 ip6 ip8 ip9 ip10
  refine sx_iload dX12_addTime_17 rfl ?_
  refine sx_if_eq (tgt := 28) dX12_addTime_19 (by decide) (fun c5 => ?_) (fun c5 => ?_)
  ·
    refine sx_aload_n dX12_addTime_28 rfl ?_
    refine sx_getS (k := 87) (t := 276) cl_12 fl_X12_175 dX12_addTime_29 s_224 (by decide) rfl (by decide) ?_
    refine sx_iload dX12_addTime_32 rfl ?_
    refine sx_dup2 dX12_addTime_34 ?_
    refine sx_iaload dX12_addTime_35 s_276 (by decide) (by decide) ⟨by omega, by omega⟩ ?_
    refine sx_aload_n dX12_addTime_36 rfl ?_
    refine sx_iload_n dX12_addTime_37 rfl ?_
    refine sx_iload dX12_addTime_38 rfl ?_
    refine sx_if_ne (tgt := 53) dX12_addTime_40 (by decide) (fun c6 => ?_) (fun c6 => ?_)
    ·
      exfalso; omega
    ·
      refine sx_aload_n dX12_addTime_43 rfl ?_
      refine sx_getS (k := 25) (t := 241) cl_12 fl_X12_63 dX12_addTime_44 s_224 (by decide) rfl (by decide) ?_
      refine sx_iload dX12_addTime_47 rfl ?_
      refine sy_iaF (F := fun z => (0 : Int) ≤ z ∧ z ≤ 9999) dX12_addTime_49 s_241 (by decide) (by decide) ⟨by omega, by omega⟩ (hI.1 241 _) (fun r7 => ?_)
      refine sx_goto (tgt := 55) dX12_addTime_50 (by decide) ?_
      refine sx_callVi lk_X12_644 cl_12 s_224 (by decide) dX12_addTime_55 (vs := [_, _]) rfl rfl (Nat.le_of_ble_eq_true rfl) (Nat.le_of_ble_eq_true rfl) rfl (c_X12_takesOf _ hI.1 _ _ (mC_mK hI rfl rfl hJ hC)) (fun x9 h8 ph8 => ?_)
      obtain ⟨Kh8, p_h8⟩ := ph8
      have Ih8 := hI.tr Kh8 (prW_sub rfl rfl)
      refine sx_iadd dX12_addTime_58 ?_
      refine sy_iastore dX12_addTime_59 s_276 (by decide) (by decide) ⟨by omega, by omega⟩ (fun h10 eh10 => ?_)
      have Ih10 := Ih8.up eh10 trivial rfl
      refine sx_iload dX12_addTime_60 rfl ?_
      refine sx_iconst dX12_addTime_62 ⟨by decide, by decide⟩ ?_
      refine sx_icmp_ne (tgt := 114) dX12_addTime_63 (by decide) (fun c11 => ?_) (fun c11 => ?_)
      ·
        refine sx_iload dX12_addTime_114 rfl ?_
        refine sx_iconst dX12_addTime_116 ⟨by decide, by decide⟩ ?_
        refine sx_icmp_eq (tgt := 127) dX12_addTime_117 (by decide) (fun c12 => ?_) (fun c12 => ?_)
        ·
          exfalso; omega
        ·
          refine sx_iload dX12_addTime_120 rfl ?_
          refine sx_bipush dX12_addTime_122 ⟨by decide, by decide, by decide⟩ ?_
          refine sx_icmp_ne (tgt := 152) dX12_addTime_124 (by decide) (fun c13 => ?_) (fun c13 => ?_)
          ·
            refine sx_iload dX12_addTime_152 rfl ?_
            refine sx_iconst dX12_addTime_154 ⟨by decide, by decide⟩ ?_
            refine sx_icmp_ne (tgt := 180) dX12_addTime_155 (by decide) (fun c14 => ?_) (fun c14 => ?_)
            ·
              refine sx_iload dX12_addTime_180 rfl ?_
              refine sx_iconst dX12_addTime_182 ⟨by decide, by decide⟩ ?_
              refine sx_icmp_ne (tgt := 223) dX12_addTime_183 (by decide) (fun c15 => ?_) (fun c15 => ?_)
              ·
                refine sx_iload dX12_addTime_223 rfl ?_
                refine sx_bipush dX12_addTime_225 ⟨by decide, by decide, by decide⟩ ?_
                refine sx_icmp_ne (tgt := 270) dX12_addTime_227 (by decide) (fun c16 => ?_) (fun c16 => ?_)
                ·
                  refine sx_iload dX12_addTime_270 rfl ?_
                  refine sx_iconst dX12_addTime_272 ⟨by decide, by decide⟩ ?_
                  refine sx_icmp_eq (tgt := 283) dX12_addTime_273 (by decide) (fun c17 => ?_) (fun c17 => ?_)
                  ·
                    exfalso; omega
                  ·
                    refine sx_iload dX12_addTime_276 rfl ?_
                    refine sx_bipush dX12_addTime_278 ⟨by decide, by decide, by decide⟩ ?_
                    refine sx_icmp_ne (tgt := 290) dX12_addTime_280 (by decide) (fun c18 => ?_) (fun c18 => ?_)
                    ·
                      refine sx_iload dX12_addTime_290 rfl ?_
                      refine sx_ireturn dX12_addTime_292 ?_
                      exact ⟨_, rfl, ⟨Ih10, by omega⟩⟩
                    ·
                      exfalso; omega
                ·
                  exfalso; omega
              ·
                exfalso; omega
            ·
              exfalso; omega
          ·
            exfalso; omega
      ·
        exfalso; omega
  ·
    refine sx_iload dX12_addTime_22 rfl ?_
    refine sx_iconst dX12_addTime_24 ⟨by decide, by decide⟩ ?_
    refine sx_icmp_ne (tgt := 60) dX12_addTime_25 (by decide) (fun c19 => ?_) (fun c19 => ?_)
    ·
      refine sx_iload dX12_addTime_60 rfl ?_
      refine sx_iconst dX12_addTime_62 ⟨by decide, by decide⟩ ?_
      refine sx_icmp_ne (tgt := 114) dX12_addTime_63 (by decide) (fun c20 => ?_) (fun c20 => ?_)
      ·
        refine sx_iload dX12_addTime_114 rfl ?_
        refine sx_iconst dX12_addTime_116 ⟨by decide, by decide⟩ ?_
        refine sx_icmp_eq (tgt := 127) dX12_addTime_117 (by decide) (fun c21 => ?_) (fun c21 => ?_)
        ·
          refine sx_aload_n dX12_addTime_127 rfl ?_
          refine sx_getS (k := 87) (t := 276) cl_12 fl_X12_175 dX12_addTime_128 s_224 (by decide) rfl (by decide) ?_
          refine sx_iload dX12_addTime_131 rfl ?_
          refine sx_iconst dX12_addTime_133 ⟨by decide, by decide⟩ ?_
          refine sx_iadd dX12_addTime_134 ?_
          refine sy_topw (by omega) ?_
          refine sx_iconst dX12_addTime_135 ⟨by decide, by decide⟩ ?_
          refine sy_iastore dX12_addTime_136 s_276 (by decide) (by decide) ⟨by omega, by omega⟩ (fun h22 eh22 => ?_)
          have Ih22 := hI.up eh22 trivial rfl
          refine sx_aload_n dX12_addTime_137 rfl ?_
          refine sx_getS (k := 88) (t := 277) cl_12 fl_X12_178 dX12_addTime_138 s_224 (by decide) rfl (by decide) ?_
          refine sx_iload dX12_addTime_141 rfl ?_
          refine sx_iconst dX12_addTime_143 ⟨by decide, by decide⟩ ?_
          refine sx_iadd dX12_addTime_144 ?_
          refine sy_topw (by omega) ?_
          refine sx_iconst dX12_addTime_145 ⟨by decide, by decide⟩ ?_
          refine sy_iastore dX12_addTime_146 s_277 (by decide) (by decide) ⟨by omega, by omega⟩ (fun h23 eh23 => ?_)
          have Ih23 := Ih22.up eh23 trivial rfl
          refine sx_iload dX12_addTime_147 rfl ?_
          refine sx_iconst dX12_addTime_149 ⟨by decide, by decide⟩ ?_
          refine sx_iadd dX12_addTime_150 ?_
          refine sy_topw (by omega) ?_
          refine sx_ireturn dX12_addTime_151 ?_
          exact ⟨_, rfl, ⟨Ih23, by omega⟩⟩
        ·
          refine sx_iload dX12_addTime_120 rfl ?_
          refine sx_bipush dX12_addTime_122 ⟨by decide, by decide, by decide⟩ ?_
          refine sx_icmp_ne (tgt := 152) dX12_addTime_124 (by decide) (fun c24 => ?_) (fun c24 => ?_)
          ·
            refine sx_iload dX12_addTime_152 rfl ?_
            refine sx_iconst dX12_addTime_154 ⟨by decide, by decide⟩ ?_
            refine sx_icmp_ne (tgt := 180) dX12_addTime_155 (by decide) (fun c25 => ?_) (fun c25 => ?_)
            ·
              refine sx_iload dX12_addTime_180 rfl ?_
              refine sx_iconst dX12_addTime_182 ⟨by decide, by decide⟩ ?_
              refine sx_icmp_ne (tgt := 223) dX12_addTime_183 (by decide) (fun c26 => ?_) (fun c26 => ?_)
              ·
                refine sx_iload dX12_addTime_223 rfl ?_
                refine sx_bipush dX12_addTime_225 ⟨by decide, by decide, by decide⟩ ?_
                refine sx_icmp_ne (tgt := 270) dX12_addTime_227 (by decide) (fun c27 => ?_) (fun c27 => ?_)
                ·
                  refine sx_iload dX12_addTime_270 rfl ?_
                  refine sx_iconst dX12_addTime_272 ⟨by decide, by decide⟩ ?_
                  refine sx_icmp_eq (tgt := 283) dX12_addTime_273 (by decide) (fun c28 => ?_) (fun c28 => ?_)
                  ·
                    exfalso; omega
                  ·
                    refine sx_iload dX12_addTime_276 rfl ?_
                    refine sx_bipush dX12_addTime_278 ⟨by decide, by decide, by decide⟩ ?_
                    refine sx_icmp_ne (tgt := 290) dX12_addTime_280 (by decide) (fun c29 => ?_) (fun c29 => ?_)
                    ·
                      refine sx_iload dX12_addTime_290 rfl ?_
                      refine sx_ireturn dX12_addTime_292 ?_
                      exact ⟨_, rfl, ⟨hI, by omega⟩⟩
                    ·
                      exfalso; omega
                ·
                  refine sx_aload_n dX12_addTime_230 rfl ?_
                  refine sx_getS (k := 87) (t := 276) cl_12 fl_X12_175 dX12_addTime_231 s_224 (by decide) rfl (by decide) ?_
                  refine sx_iload dX12_addTime_234 rfl ?_
                  refine sx_iconst dX12_addTime_236 ⟨by decide, by decide⟩ ?_
                  refine sx_isub dX12_addTime_237 ?_
                  refine sy_topw (by omega) ?_
                  refine sx_dup2 dX12_addTime_238 ?_
                  refine sx_iaload dX12_addTime_239 s_276 (by decide) (by decide) ⟨by omega, by omega⟩ ?_
                  refine sx_aload_n dX12_addTime_240 rfl ?_
                  refine sx_getS (k := 25) (t := 241) cl_12 fl_X12_63 dX12_addTime_241 s_224 (by decide) rfl (by decide) ?_
                  refine sx_aload_n dX12_addTime_244 rfl ?_
                  refine sx_getS (k := 27) (t := 243) cl_12 fl_X12_69 dX12_addTime_245 s_224 (by decide) rfl (by decide) ?_
                  refine sx_iload dX12_addTime_248 rfl ?_
                  have w43 : h0 243 (x2).toNat = h0 243 (x2).toNat := by first | rfl | exact hI.2 243 _ rfl
                  refine sy_iaF (F := fun z => (-1 : Int) ≤ z ∧ z ≤ 119) dX12_addTime_250 s_243 (by decide) (by decide) ⟨by omega, by omega⟩ (hI.1 243 _) (fun r30 => ?_)
                  refine sy_iaF (F := fun z => (0 : Int) ≤ z ∧ z ≤ 9999) dX12_addTime_251 s_241 (by decide) (by decide) ⟨by omega, by omega⟩ (hI.1 241 _) (fun r31 => ?_)
                  refine sx_aload_n dX12_addTime_252 rfl ?_
                  refine sx_iload_n dX12_addTime_253 rfl ?_
                  refine sx_bipush dX12_addTime_254 ⟨by decide, by decide, by decide⟩ ?_
                  refine sx_callVi lk_X12_644 cl_12 s_224 (by decide) dX12_addTime_256 (vs := [_, _]) rfl rfl (Nat.le_of_ble_eq_true rfl) (Nat.le_of_ble_eq_true rfl) rfl (c_X12_takesOf _ hI.1 _ _ (mC_mK hI rfl rfl hJ hC)) (fun x33 h32 ph32 => ?_)
                  obtain ⟨Kh32, p_h32⟩ := ph32
                  have Ih32 := hI.tr Kh32 (prW_sub rfl rfl)
                  refine sx_aload_n dX12_addTime_259 rfl ?_
                  refine sx_getS (k := 87) (t := 276) cl_12 fl_X12_175 dX12_addTime_260 s_224 (by decide) rfl (by decide) ?_
                  refine sx_iload dX12_addTime_263 rfl ?_
                  refine sx_iaload dX12_addTime_265 s_276 (by decide) (by decide) ⟨by omega, by omega⟩ ?_
                  refine sx_iadd dX12_addTime_266 ?_
                  refine sx_imul dX12_addTime_267 ?_
                  refine sx_iadd dX12_addTime_268 ?_
                  refine sy_iastore dX12_addTime_269 s_276 (by decide) (by decide) ⟨by omega, by omega⟩ (fun h34 eh34 => ?_)
                  have Ih34 := Ih32.up eh34 trivial rfl
                  refine sx_iload dX12_addTime_270 rfl ?_
                  refine sx_iconst dX12_addTime_272 ⟨by decide, by decide⟩ ?_
                  refine sx_icmp_eq (tgt := 283) dX12_addTime_273 (by decide) (fun c35 => ?_) (fun c35 => ?_)
                  ·
                    exfalso; omega
                  ·
                    refine sx_iload dX12_addTime_276 rfl ?_
                    refine sx_bipush dX12_addTime_278 ⟨by decide, by decide, by decide⟩ ?_
                    refine sx_icmp_ne (tgt := 290) dX12_addTime_280 (by decide) (fun c36 => ?_) (fun c36 => ?_)
                    ·
                      exfalso; omega
                    ·
                      refine sx_iload dX12_addTime_283 rfl ?_
                      refine sx_iconst dX12_addTime_285 ⟨by decide, by decide⟩ ?_
                      refine sx_isub dX12_addTime_286 ?_
                      refine sy_topw (by omega) ?_
                      refine sx_goto (tgt := 292) dX12_addTime_287 (by decide) ?_
                      refine sx_ireturn dX12_addTime_292 ?_
                      exact ⟨_, rfl, ⟨Ih34, by omega⟩⟩
              ·
                refine sx_aload_n dX12_addTime_186 rfl ?_
                refine sx_getS (k := 87) (t := 276) cl_12 fl_X12_175 dX12_addTime_187 s_224 (by decide) rfl (by decide) ?_
                refine sx_iload dX12_addTime_190 rfl ?_
                refine sx_iconst dX12_addTime_192 ⟨by decide, by decide⟩ ?_
                refine sx_isub dX12_addTime_193 ?_
                refine sy_topw (by omega) ?_
                refine sx_dup2 dX12_addTime_194 ?_
                refine sx_iaload dX12_addTime_195 s_276 (by decide) (by decide) ⟨by omega, by omega⟩ ?_
                refine sx_aload_n dX12_addTime_196 rfl ?_
                refine sx_iload_n dX12_addTime_197 rfl ?_
                refine sx_bipush dX12_addTime_198 ⟨by decide, by decide, by decide⟩ ?_
                refine sx_callVi lk_X12_644 cl_12 s_224 (by decide) dX12_addTime_200 (vs := [_, _]) rfl rfl (Nat.le_of_ble_eq_true rfl) (Nat.le_of_ble_eq_true rfl) rfl (c_X12_takesOf _ hI.1 _ _ (mC_mK hI rfl rfl hJ hC)) (fun x38 h37 ph37 => ?_)
                obtain ⟨Kh37, p_h37⟩ := ph37
                have Ih37 := hI.tr Kh37 (prW_sub rfl rfl)
                refine sx_aload_n dX12_addTime_203 rfl ?_
                refine sx_getS (k := 87) (t := 276) cl_12 fl_X12_175 dX12_addTime_204 s_224 (by decide) rfl (by decide) ?_
                refine sx_iload dX12_addTime_207 rfl ?_
                refine sx_iaload dX12_addTime_209 s_276 (by decide) (by decide) ⟨by omega, by omega⟩ ?_
                refine sx_aload_n dX12_addTime_210 rfl ?_
                refine sx_getS (k := 88) (t := 277) cl_12 fl_X12_178 dX12_addTime_211 s_224 (by decide) rfl (by decide) ?_
                refine sx_iload dX12_addTime_214 rfl ?_
                refine sx_iaload dX12_addTime_216 s_277 (by decide) (by decide) ⟨by omega, by omega⟩ ?_
                refine sx_callSi lk_X12_588 dX12_addTime_217 (vs := [_, _]) rfl rfl (Nat.le_of_ble_eq_true rfl) (Nat.le_of_ble_eq_true rfl) rfl (c_X12_more _ Ih37.1 _ _) (fun x40 h39 ph39 => ?_)
                obtain ⟨rfl, p_x40⟩ := ph39
                refine sx_iadd dX12_addTime_220 ?_
                refine sx_iadd dX12_addTime_221 ?_
                refine sy_iastore dX12_addTime_222 s_276 (by decide) (by decide) ⟨by omega, by omega⟩ (fun h41 eh41 => ?_)
                have Ih41 := Ih37.up eh41 trivial rfl
                refine sx_iload dX12_addTime_223 rfl ?_
                refine sx_bipush dX12_addTime_225 ⟨by decide, by decide, by decide⟩ ?_
                refine sx_icmp_ne (tgt := 270) dX12_addTime_227 (by decide) (fun c42 => ?_) (fun c42 => ?_)
                ·
                  refine sx_iload dX12_addTime_270 rfl ?_
                  refine sx_iconst dX12_addTime_272 ⟨by decide, by decide⟩ ?_
                  refine sx_icmp_eq (tgt := 283) dX12_addTime_273 (by decide) (fun c43 => ?_) (fun c43 => ?_)
                  ·
                    refine sx_iload dX12_addTime_283 rfl ?_
                    refine sx_iconst dX12_addTime_285 ⟨by decide, by decide⟩ ?_
                    refine sx_isub dX12_addTime_286 ?_
                    refine sy_topw (by omega) ?_
                    refine sx_goto (tgt := 292) dX12_addTime_287 (by decide) ?_
                    refine sx_ireturn dX12_addTime_292 ?_
                    exact ⟨_, rfl, ⟨Ih41, by omega⟩⟩
                  ·
                    exfalso; omega
                ·
                  exfalso; omega
            ·
              refine sx_aload_n dX12_addTime_158 rfl ?_
              refine sx_getS (k := 88) (t := 277) cl_12 fl_X12_178 dX12_addTime_159 s_224 (by decide) rfl (by decide) ?_
              refine sx_iload dX12_addTime_162 rfl ?_
              refine sx_aload_n dX12_addTime_164 rfl ?_
              refine sx_getS (k := 87) (t := 276) cl_12 fl_X12_175 dX12_addTime_165 s_224 (by decide) rfl (by decide) ?_
              refine sx_iload dX12_addTime_168 rfl ?_
              refine sx_iaload dX12_addTime_170 s_276 (by decide) (by decide) ⟨by omega, by omega⟩ ?_
              refine sy_iastore dX12_addTime_171 s_277 (by decide) (by decide) ⟨by omega, by omega⟩ (fun h44 eh44 => ?_)
              have Ih44 := hI.up eh44 trivial rfl
              refine sx_aload_n dX12_addTime_172 rfl ?_
              refine sx_getS (k := 87) (t := 276) cl_12 fl_X12_175 dX12_addTime_173 s_224 (by decide) rfl (by decide) ?_
              refine sx_iload dX12_addTime_176 rfl ?_
              refine sx_iconst dX12_addTime_178 ⟨by decide, by decide⟩ ?_
              refine sy_iastore dX12_addTime_179 s_276 (by decide) (by decide) ⟨by omega, by omega⟩ (fun h45 eh45 => ?_)
              have Ih45 := Ih44.up eh45 trivial rfl
              refine sx_iload dX12_addTime_180 rfl ?_
              refine sx_iconst dX12_addTime_182 ⟨by decide, by decide⟩ ?_
              refine sx_icmp_ne (tgt := 223) dX12_addTime_183 (by decide) (fun c46 => ?_) (fun c46 => ?_)
              ·
                refine sx_iload dX12_addTime_223 rfl ?_
                refine sx_bipush dX12_addTime_225 ⟨by decide, by decide, by decide⟩ ?_
                refine sx_icmp_ne (tgt := 270) dX12_addTime_227 (by decide) (fun c47 => ?_) (fun c47 => ?_)
                ·
                  refine sx_iload dX12_addTime_270 rfl ?_
                  refine sx_iconst dX12_addTime_272 ⟨by decide, by decide⟩ ?_
                  refine sx_icmp_eq (tgt := 283) dX12_addTime_273 (by decide) (fun c48 => ?_) (fun c48 => ?_)
                  ·
                    exfalso; omega
                  ·
                    refine sx_iload dX12_addTime_276 rfl ?_
                    refine sx_bipush dX12_addTime_278 ⟨by decide, by decide, by decide⟩ ?_
                    refine sx_icmp_ne (tgt := 290) dX12_addTime_280 (by decide) (fun c49 => ?_) (fun c49 => ?_)
                    ·
                      refine sx_iload dX12_addTime_290 rfl ?_
                      refine sx_ireturn dX12_addTime_292 ?_
                      exact ⟨_, rfl, ⟨Ih45, by omega⟩⟩
                    ·
                      exfalso; omega
                ·
                  exfalso; omega
              ·
                exfalso; omega
          ·
            refine sx_aload_n dX12_addTime_127 rfl ?_
            refine sx_getS (k := 87) (t := 276) cl_12 fl_X12_175 dX12_addTime_128 s_224 (by decide) rfl (by decide) ?_
            refine sx_iload dX12_addTime_131 rfl ?_
            refine sx_iconst dX12_addTime_133 ⟨by decide, by decide⟩ ?_
            refine sx_iadd dX12_addTime_134 ?_
            refine sy_topw (by omega) ?_
            refine sx_iconst dX12_addTime_135 ⟨by decide, by decide⟩ ?_
            refine sy_iastore dX12_addTime_136 s_276 (by decide) (by decide) ⟨by omega, by omega⟩ (fun h50 eh50 => ?_)
            have Ih50 := hI.up eh50 trivial rfl
            refine sx_aload_n dX12_addTime_137 rfl ?_
            refine sx_getS (k := 88) (t := 277) cl_12 fl_X12_178 dX12_addTime_138 s_224 (by decide) rfl (by decide) ?_
            refine sx_iload dX12_addTime_141 rfl ?_
            refine sx_iconst dX12_addTime_143 ⟨by decide, by decide⟩ ?_
            refine sx_iadd dX12_addTime_144 ?_
            refine sy_topw (by omega) ?_
            refine sx_iconst dX12_addTime_145 ⟨by decide, by decide⟩ ?_
            refine sy_iastore dX12_addTime_146 s_277 (by decide) (by decide) ⟨by omega, by omega⟩ (fun h51 eh51 => ?_)
            have Ih51 := Ih50.up eh51 trivial rfl
            refine sx_iload dX12_addTime_147 rfl ?_
            refine sx_iconst dX12_addTime_149 ⟨by decide, by decide⟩ ?_
            refine sx_iadd dX12_addTime_150 ?_
            refine sy_topw (by omega) ?_
            refine sx_ireturn dX12_addTime_151 ?_
            exact ⟨_, rfl, ⟨Ih51, by omega⟩⟩
      ·
        refine sx_aload_n dX12_addTime_66 rfl ?_
        refine sx_getS (k := 87) (t := 276) cl_12 fl_X12_175 dX12_addTime_67 s_224 (by decide) rfl (by decide) ?_
        refine sx_iload dX12_addTime_70 rfl ?_
        refine sx_dup2 dX12_addTime_72 ?_
        refine sx_iaload dX12_addTime_73 s_276 (by decide) (by decide) ⟨by omega, by omega⟩ ?_
        refine sx_aload_n dX12_addTime_74 rfl ?_
        refine sx_getS (k := 86) (t := 275) cl_12 fl_X12_172 dX12_addTime_75 s_224 (by decide) rfl (by decide) ?_
        refine sx_aload_n dX12_addTime_78 rfl ?_
        refine sx_getS (k := 25) (t := 241) cl_12 fl_X12_63 dX12_addTime_79 s_224 (by decide) rfl (by decide) ?_
        refine sx_iload dX12_addTime_82 rfl ?_
        have w41 : h0 241 (x2).toNat = h0 241 (x2).toNat := by first | rfl | exact hI.2 241 _ rfl
        refine sy_iaF (F := fun z => (0 : Int) ≤ z ∧ z ≤ 9999) dX12_addTime_84 s_241 (by decide) (by decide) ⟨by omega, by omega⟩ (hI.1 241 _) (fun r52 => ?_)
        refine sx_iaload dX12_addTime_85 s_275 (by decide) (by decide) ⟨by omega, by omega⟩ ?_
        refine sx_aload_n dX12_addTime_86 rfl ?_
        refine sx_aload_n dX12_addTime_87 rfl ?_
        refine sx_getS (k := 25) (t := 241) cl_12 fl_X12_63 dX12_addTime_88 s_224 (by decide) rfl (by decide) ?_
        refine sx_iload dX12_addTime_91 rfl ?_
        have w41b : h0 241 (x2).toNat = h0 241 (x2).toNat := by first | rfl | exact hI.2 241 _ rfl
        refine sy_iaF (F := fun z => (0 : Int) ≤ z ∧ z ≤ 9999) dX12_addTime_93 s_241 (by decide) (by decide) ⟨by omega, by omega⟩ (hI.1 241 _) (fun r53 => ?_)
        refine sx_callVz lk_X12_582 cl_12 s_224 (by decide) dX12_addTime_94 (vs := [_]) rfl rfl (Nat.le_of_ble_eq_true rfl) (Nat.le_of_ble_eq_true rfl) rfl (c_X12_isInlined _ hI.1 _) (fun x55 h54 zx55 ph54 => ?_)
        subst ph54
        refine sx_if_eq (tgt := 104) dX12_addTime_97 (by decide) (fun c56 => ?_) (fun c56 => ?_)
        ·
          clear zx55
          refine sx_aload_n dX12_addTime_104 rfl ?_
          refine sx_iload_n dX12_addTime_105 rfl ?_
          refine sx_bipush dX12_addTime_106 ⟨by decide, by decide, by decide⟩ ?_
          refine sx_callVi lk_X12_644 cl_12 s_224 (by decide) dX12_addTime_108 (vs := [_, _]) rfl rfl (Nat.le_of_ble_eq_true rfl) (Nat.le_of_ble_eq_true rfl) rfl (c_X12_takesOf _ hI.1 _ _ (mC_mK hI rfl rfl hJ hC)) (fun x58 h57 ph57 => ?_)
          obtain ⟨Kh57, p_h57⟩ := ph57
          have Ih57 := hI.tr Kh57 (prW_sub rfl rfl)
          refine sx_iadd dX12_addTime_111 ?_
          refine sx_iadd dX12_addTime_112 ?_
          refine sy_iastore dX12_addTime_113 s_276 (by decide) (by decide) ⟨by omega, by omega⟩ (fun h59 eh59 => ?_)
          have Ih59 := Ih57.up eh59 trivial rfl
          refine sx_iload dX12_addTime_114 rfl ?_
          refine sx_iconst dX12_addTime_116 ⟨by decide, by decide⟩ ?_
          refine sx_icmp_eq (tgt := 127) dX12_addTime_117 (by decide) (fun c60 => ?_) (fun c60 => ?_)
          ·
            exfalso; omega
          ·
            refine sx_iload dX12_addTime_120 rfl ?_
            refine sx_bipush dX12_addTime_122 ⟨by decide, by decide, by decide⟩ ?_
            refine sx_icmp_ne (tgt := 152) dX12_addTime_124 (by decide) (fun c61 => ?_) (fun c61 => ?_)
            ·
              refine sx_iload dX12_addTime_152 rfl ?_
              refine sx_iconst dX12_addTime_154 ⟨by decide, by decide⟩ ?_
              refine sx_icmp_ne (tgt := 180) dX12_addTime_155 (by decide) (fun c62 => ?_) (fun c62 => ?_)
              ·
                refine sx_iload dX12_addTime_180 rfl ?_
                refine sx_iconst dX12_addTime_182 ⟨by decide, by decide⟩ ?_
                refine sx_icmp_ne (tgt := 223) dX12_addTime_183 (by decide) (fun c63 => ?_) (fun c63 => ?_)
                ·
                  refine sx_iload dX12_addTime_223 rfl ?_
                  refine sx_bipush dX12_addTime_225 ⟨by decide, by decide, by decide⟩ ?_
                  refine sx_icmp_ne (tgt := 270) dX12_addTime_227 (by decide) (fun c64 => ?_) (fun c64 => ?_)
                  ·
                    refine sx_iload dX12_addTime_270 rfl ?_
                    refine sx_iconst dX12_addTime_272 ⟨by decide, by decide⟩ ?_
                    refine sx_icmp_eq (tgt := 283) dX12_addTime_273 (by decide) (fun c65 => ?_) (fun c65 => ?_)
                    ·
                      exfalso; omega
                    ·
                      refine sx_iload dX12_addTime_276 rfl ?_
                      refine sx_bipush dX12_addTime_278 ⟨by decide, by decide, by decide⟩ ?_
                      refine sx_icmp_ne (tgt := 290) dX12_addTime_280 (by decide) (fun c66 => ?_) (fun c66 => ?_)
                      ·
                        refine sx_iload dX12_addTime_290 rfl ?_
                        refine sx_ireturn dX12_addTime_292 ?_
                        exact ⟨_, rfl, ⟨Ih59, by omega⟩⟩
                      ·
                        exfalso; omega
                  ·
                    exfalso; omega
                ·
                  exfalso; omega
              ·
                exfalso; omega
            ·
              exfalso; omega
        ·
          have vx55 : x55 = 1 := by rcases zx55 with q | q; (exact absurd q c56); exact q
          clear zx55
          refine sx_iconst dX12_addTime_100 ⟨by decide, by decide⟩ ?_
          refine sx_goto (tgt := 111) dX12_addTime_101 (by decide) ?_
          refine sx_iadd dX12_addTime_111 ?_
          refine sx_iadd dX12_addTime_112 ?_
          refine sy_iastore dX12_addTime_113 s_276 (by decide) (by decide) ⟨by omega, by omega⟩ (fun h67 eh67 => ?_)
          have Ih67 := hI.up eh67 trivial rfl
          refine sx_iload dX12_addTime_114 rfl ?_
          refine sx_iconst dX12_addTime_116 ⟨by decide, by decide⟩ ?_
          refine sx_icmp_eq (tgt := 127) dX12_addTime_117 (by decide) (fun c68 => ?_) (fun c68 => ?_)
          ·
            exfalso; omega
          ·
            refine sx_iload dX12_addTime_120 rfl ?_
            refine sx_bipush dX12_addTime_122 ⟨by decide, by decide, by decide⟩ ?_
            refine sx_icmp_ne (tgt := 152) dX12_addTime_124 (by decide) (fun c69 => ?_) (fun c69 => ?_)
            ·
              refine sx_iload dX12_addTime_152 rfl ?_
              refine sx_iconst dX12_addTime_154 ⟨by decide, by decide⟩ ?_
              refine sx_icmp_ne (tgt := 180) dX12_addTime_155 (by decide) (fun c70 => ?_) (fun c70 => ?_)
              ·
                refine sx_iload dX12_addTime_180 rfl ?_
                refine sx_iconst dX12_addTime_182 ⟨by decide, by decide⟩ ?_
                refine sx_icmp_ne (tgt := 223) dX12_addTime_183 (by decide) (fun c71 => ?_) (fun c71 => ?_)
                ·
                  refine sx_iload dX12_addTime_223 rfl ?_
                  refine sx_bipush dX12_addTime_225 ⟨by decide, by decide, by decide⟩ ?_
                  refine sx_icmp_ne (tgt := 270) dX12_addTime_227 (by decide) (fun c72 => ?_) (fun c72 => ?_)
                  ·
                    refine sx_iload dX12_addTime_270 rfl ?_
                    refine sx_iconst dX12_addTime_272 ⟨by decide, by decide⟩ ?_
                    refine sx_icmp_eq (tgt := 283) dX12_addTime_273 (by decide) (fun c73 => ?_) (fun c73 => ?_)
                    ·
                      exfalso; omega
                    ·
                      refine sx_iload dX12_addTime_276 rfl ?_
                      refine sx_bipush dX12_addTime_278 ⟨by decide, by decide, by decide⟩ ?_
                      refine sx_icmp_ne (tgt := 290) dX12_addTime_280 (by decide) (fun c74 => ?_) (fun c74 => ?_)
                      ·
                        refine sx_iload dX12_addTime_290 rfl ?_
                        refine sx_ireturn dX12_addTime_292 ?_
                        exact ⟨_, rfl, ⟨Ih67, by omega⟩⟩
                      ·
                        exfalso; omega
                  ·
                    exfalso; omega
                ·
                  exfalso; omega
              ·
                exfalso; omega
            ·
              exfalso; omega
    ·
      refine sx_aload_n dX12_addTime_28 rfl ?_
      refine sx_getS (k := 87) (t := 276) cl_12 fl_X12_175 dX12_addTime_29 s_224 (by decide) rfl (by decide) ?_
      refine sx_iload dX12_addTime_32 rfl ?_
      refine sx_dup2 dX12_addTime_34 ?_
      refine sx_iaload dX12_addTime_35 s_276 (by decide) (by decide) ⟨by omega, by omega⟩ ?_
      refine sx_aload_n dX12_addTime_36 rfl ?_
      refine sx_iload_n dX12_addTime_37 rfl ?_
      refine sx_iload dX12_addTime_38 rfl ?_
      refine sx_if_ne (tgt := 53) dX12_addTime_40 (by decide) (fun c75 => ?_) (fun c75 => ?_)
      ·
        refine sx_bipush dX12_addTime_53 ⟨by decide, by decide, by decide⟩ ?_
        refine sx_callVi lk_X12_644 cl_12 s_224 (by decide) dX12_addTime_55 (vs := [_, _]) rfl rfl (Nat.le_of_ble_eq_true rfl) (Nat.le_of_ble_eq_true rfl) rfl (c_X12_takesOf _ hI.1 _ _ (mC_mK hI rfl rfl hJ hC)) (fun x77 h76 ph76 => ?_)
        obtain ⟨Kh76, p_h76⟩ := ph76
        have Ih76 := hI.tr Kh76 (prW_sub rfl rfl)
        refine sx_iadd dX12_addTime_58 ?_
        refine sy_iastore dX12_addTime_59 s_276 (by decide) (by decide) ⟨by omega, by omega⟩ (fun h78 eh78 => ?_)
        have Ih78 := Ih76.up eh78 trivial rfl
        refine sx_iload dX12_addTime_60 rfl ?_
        refine sx_iconst dX12_addTime_62 ⟨by decide, by decide⟩ ?_
        refine sx_icmp_ne (tgt := 114) dX12_addTime_63 (by decide) (fun c79 => ?_) (fun c79 => ?_)
        ·
          refine sx_iload dX12_addTime_114 rfl ?_
          refine sx_iconst dX12_addTime_116 ⟨by decide, by decide⟩ ?_
          refine sx_icmp_eq (tgt := 127) dX12_addTime_117 (by decide) (fun c80 => ?_) (fun c80 => ?_)
          ·
            exfalso; omega
          ·
            refine sx_iload dX12_addTime_120 rfl ?_
            refine sx_bipush dX12_addTime_122 ⟨by decide, by decide, by decide⟩ ?_
            refine sx_icmp_ne (tgt := 152) dX12_addTime_124 (by decide) (fun c81 => ?_) (fun c81 => ?_)
            ·
              refine sx_iload dX12_addTime_152 rfl ?_
              refine sx_iconst dX12_addTime_154 ⟨by decide, by decide⟩ ?_
              refine sx_icmp_ne (tgt := 180) dX12_addTime_155 (by decide) (fun c82 => ?_) (fun c82 => ?_)
              ·
                refine sx_iload dX12_addTime_180 rfl ?_
                refine sx_iconst dX12_addTime_182 ⟨by decide, by decide⟩ ?_
                refine sx_icmp_ne (tgt := 223) dX12_addTime_183 (by decide) (fun c83 => ?_) (fun c83 => ?_)
                ·
                  refine sx_iload dX12_addTime_223 rfl ?_
                  refine sx_bipush dX12_addTime_225 ⟨by decide, by decide, by decide⟩ ?_
                  refine sx_icmp_ne (tgt := 270) dX12_addTime_227 (by decide) (fun c84 => ?_) (fun c84 => ?_)
                  ·
                    refine sx_iload dX12_addTime_270 rfl ?_
                    refine sx_iconst dX12_addTime_272 ⟨by decide, by decide⟩ ?_
                    refine sx_icmp_eq (tgt := 283) dX12_addTime_273 (by decide) (fun c85 => ?_) (fun c85 => ?_)
                    ·
                      exfalso; omega
                    ·
                      refine sx_iload dX12_addTime_276 rfl ?_
                      refine sx_bipush dX12_addTime_278 ⟨by decide, by decide, by decide⟩ ?_
                      refine sx_icmp_ne (tgt := 290) dX12_addTime_280 (by decide) (fun c86 => ?_) (fun c86 => ?_)
                      ·
                        refine sx_iload dX12_addTime_290 rfl ?_
                        refine sx_ireturn dX12_addTime_292 ?_
                        exact ⟨_, rfl, ⟨Ih78, by omega⟩⟩
                      ·
                        exfalso; omega
                  ·
                    exfalso; omega
                ·
                  exfalso; omega
              ·
                exfalso; omega
            ·
              exfalso; omega
        ·
          exfalso; omega
      ·
        exfalso; omega
set_option maxRecDepth 20000 in
set_option maxHeartbeats 4000000 in
theorem c_X12_timeBy {G : sw_G} (d : Nat) {h0 : sw_H} (hJ : mI h0) (y1 y2 : Int) (hC : mC h0) (hw : 0 ≤ y1 ∧ y1 < h0 227 (h0 224 36).toNat)  : sw_E G NH SH (d + 4) mX12_timeBy 0 [some (sw_r 224), some (sw_i y1), some (sw_i y2), none, none, none] [] h0 (sw_Qi (fun z h' => mK (prW [59, 60] [251, 275, 276, 277]) h0 h')) := by
  have hI : mK (prW [59, 60] [251, 275, 276, 277]) h0 h0 := mK.refl hJ
  have r27 : (0 : Int) ≤ h0 227 (h0 224 36).toNat ∧ h0 227 (h0 224 36).toNat ≤ 6 := hJ 227 _
  refine sx_iconst dX12_timeBy_0 ⟨by decide, by decide⟩ ?_
  refine sx_istore_n dX12_timeBy_1 (by decide) ?_
  refine sx_loop1 (fun (h : sw_H) (k : Int) => (mK (prW [59, 60] [251, 275, 276, 277]) h0 h) ∧ (0 ≤ k)) (fun (h : sw_H) (k : Int) => (10 - k).toNat) (fun (h : sw_H) (k : Int) => sw_E G NH SH (d + 4) mX12_timeBy 2 [some (sw_r 224), some (sw_i y1), some (sw_i y2), some (sw_i k), none, none] [] h (sw_Qi (fun z h' => mK (prW [59, 60] [251, 275, 276, 277]) h0 h'))) ?_ _ _ ?_
  · rintro h1 k_2 ⟨Ih1, j3⟩ ihh1
    try dsimp only at ihh1
    refine sx_iload_n dX12_timeBy_2 rfl ?_
    refine sx_iload_n dX12_timeBy_3 rfl ?_
    refine sx_icmp_gt (tgt := 66) dX12_timeBy_4 (by decide) (fun c4 => ?_) (fun c4 => ?_)
    ·
      refine sx_aload_n dX12_timeBy_66 rfl ?_
      refine sx_getS (k := 86) (t := 275) cl_12 fl_X12_172 dX12_timeBy_67 s_224 (by decide) rfl (by decide) ?_
      refine sx_iload_n dX12_timeBy_70 rfl ?_
      refine sx_iaload dX12_timeBy_71 s_275 (by decide) (by decide) ⟨by omega, by omega⟩ ?_
      refine sx_ireturn dX12_timeBy_72 ?_
      exact ⟨_, rfl, Ih1⟩
    ·
      refine sx_iconst dX12_timeBy_7 ⟨by decide, by decide⟩ ?_
      refine sx_istore dX12_timeBy_8 (by decide) ?_
      obtain ⟨wr1, wr2, wr3, wr4⟩ := mC_w hC hJ (w := k_2) (by omega) (by omega)
      refine sx_aload_n dX12_timeBy_10 rfl ?_
      refine sx_getS (k := 87) (t := 276) cl_12 fl_X12_175 dX12_timeBy_11 s_224 (by decide) rfl (by decide) ?_
      refine sx_iconst dX12_timeBy_14 ⟨by decide, by decide⟩ ?_
      refine sx_iconst dX12_timeBy_15 ⟨by decide, by decide⟩ ?_
      refine sy_iastore dX12_timeBy_16 s_276 (by decide) (by decide) ⟨by omega, by omega⟩ (fun h5 eh5 => ?_)
      have Ih5 := Ih1.up eh5 trivial rfl
      refine sx_iconst dX12_timeBy_17 ⟨by decide, by decide⟩ ?_
      refine sx_istore dX12_timeBy_18 (by decide) ?_
      refine sx_loop2 (fun (h : sw_H) (dn : Int) (i : Int) => (mK (prW [59, 60] [251, 275, 276, 277]) h0 h) ∧ (0 ≤ i) ∧ (dn = ((tT (rS h0 (h0 224 36) k_2) i.toNat).length : Int))) (fun (h : sw_H) (dn : Int) (i : Int) => (60 - i).toNat) (fun (h : sw_H) (dn : Int) (i : Int) => sw_E G NH SH (d + 4) mX12_timeBy 20 [some (sw_r 224), some (sw_i y1), some (sw_i y2), some (sw_i k_2), some (sw_i dn), some (sw_i i)] [] h (sw_Qi (fun z h' => mK (prW [59, 60] [251, 275, 276, 277]) h0 h'))) ?_ _ _ _ ?_
      · rintro h6 dn_7 i_8 ⟨Ih6, ji, jd⟩ ihh6
        try dsimp only at ihh6
        refine sx_iload dX12_timeBy_20 rfl ?_
        refine sx_aload_n dX12_timeBy_22 rfl ?_
        refine sx_iload_n dX12_timeBy_23 rfl ?_
        refine sx_callVi lk_X12_546 cl_12 s_224 (by decide) dX12_timeBy_24 (vs := [_]) rfl rfl (Nat.le_of_ble_eq_true rfl) (Nat.le_of_ble_eq_true rfl) rfl (c_X12_manyIn _ Ih6.1 _ (by first | omega | (rw [Int.tmod_eq_emod_of_nonneg (by omega)]; omega) | (rw [Int.tdiv_eq_ediv_of_nonneg (by omega)]; omega))) (fun x10 h9 ph9 => ?_)
        obtain ⟨rfl, p_x10⟩ := ph9
        rw [Ih6.2 224 36 rfl, Ih6.2 234 _ rfl] at p_x10
        refine sx_icmp_ge (tgt := 48) dX12_timeBy_27 (by decide) (fun c11 => ?_) (fun c11 => ?_)
        ·
          refine sx_aload_n dX12_timeBy_48 rfl ?_
          refine sx_getS (k := 86) (t := 275) cl_12 fl_X12_172 dX12_timeBy_49 s_224 (by decide) rfl (by decide) ?_
          refine sx_iload_n dX12_timeBy_52 rfl ?_
          refine sx_aload_n dX12_timeBy_53 rfl ?_
          refine sx_getS (k := 87) (t := 276) cl_12 fl_X12_175 dX12_timeBy_54 s_224 (by decide) rfl (by decide) ?_
          refine sx_iconst dX12_timeBy_57 ⟨by decide, by decide⟩ ?_
          refine sx_iaload dX12_timeBy_58 s_276 (by decide) (by decide) ⟨by omega, by omega⟩ ?_
          refine sy_iastore dX12_timeBy_59 s_275 (by decide) (by decide) ⟨by omega, by omega⟩ (fun h12 eh12 => ?_)
          have Ih12 := Ih6.up eh12 trivial rfl
          refine sx_iinc dX12_timeBy_60 (by decide) rfl ?_
          rw [sw_w_id (by omega) (by omega)]
          refine sx_goto (tgt := 2) dX12_timeBy_63 (by decide) ?_
          refine sx_kill 4 ?_
          refine sx_kill 5 ?_
          exact ihh1 _ _ ⟨Ih12, by omega⟩ (by exact sy_dec (by omega) (by omega))
        ·
          have CD : cdK h0 h6 := Ih6.cd rfl rfl
          refine sx_aload_n dX12_timeBy_30 rfl ?_
          refine sx_iload_n dX12_timeBy_31 rfl ?_
          refine sx_iload dX12_timeBy_32 rfl ?_
          refine sx_iload_n dX12_timeBy_34 rfl ?_
          refine sx_iload dX12_timeBy_35 rfl ?_
          refine sx_callVi lk_X12_660 cl_12 s_224 (by decide) dX12_timeBy_37 (vs := [_, _, _, _]) rfl rfl (Nat.le_of_ble_eq_true rfl) (Nat.le_of_ble_eq_true rfl) rfl (c_X12_addTime _ Ih6.1 _ _ _ _ (mC_mK Ih6 rfl rfl hJ hC) (by rw [Ih6.2 224 36 rfl, Ih6.2 227 _ rfl]; omega) (by rw [Ih6.2 224 36 rfl, Ih6.2 234 _ rfl]; omega) (by rw [rS_cd CD, CD 224 36 rfl]; exact jd)) (fun x14 h13 ph13 => ?_)
          obtain ⟨Kh13, p_h13⟩ := ph13
          have Ih13 := Ih6.tr Kh13 (prW_sub rfl rfl)
          refine sx_istore dX12_timeBy_40 (by decide) ?_
          have jd2 : x14 = ((tT (rS h0 (h0 224 36) k_2) (i_8 + 1).toNat).length : Int) := by have q := p_h13; rw [rS_cd CD, CD 224 36 rfl] at q; exact q
          refine sx_iinc dX12_timeBy_42 (by decide) rfl ?_
          rw [sw_w_id (by omega) (by omega)]
          refine sx_goto (tgt := 20) dX12_timeBy_45 (by decide) ?_
          exact ihh6 _ _ _ ⟨Ih13, by omega, by exact jd2⟩ (by exact sy_dec (by omega) (by omega))
      · exact ⟨Ih5, by omega, by rfl⟩
  · exact ⟨hI, by omega⟩
set_option maxRecDepth 20000 in
set_option maxHeartbeats 4000000 in
theorem c_X12_roomOfItem {G : sw_G} (d : Nat) {h0 : sw_H} (hJ : mI h0) (y1 y2 : Int) (hn : 0 ≤ y1 ∧ y1 < 120) (h2 : h0 240 y1.toNat = 2 → 0 ≤ h0 241 y1.toNat ∧ h0 241 y1.toNat < 6)  : sw_E G NH SH (d + 2) mX12_roomOfItem 0 [some (sw_r 224), some (sw_i y1), some (sw_i y2)] [] h0 (sw_Qi (fun z h' => h0 = h')) := by
  have hI : mK (prW [] []) h0 h0 := mK.refl hJ
  refine sx_aload_n dX12_roomOfItem_0 rfl ?_
  refine sx_getS (k := 24) (t := 240) cl_12 fl_X12_60 dX12_roomOfItem_1 s_224 (by decide) rfl (by decide) ?_
  refine sx_iload_n dX12_roomOfItem_4 rfl ?_
  refine sy_iaF (F := fun z => (0 : Int) ≤ z ∧ z ≤ 7) dX12_roomOfItem_5 s_240 (by decide) (by decide) ⟨by omega, by omega⟩ (hI.1 240 _) (fun r1 => ?_)
  refine sx_tsw (dt := 92) (ts := [44, 46, 57, 92, 92, 90]) dX12_roomOfItem_6 (by decide) (by decide) (by decide) (fun c2 => ?_) (And.intro (fun c2 => ?_) (And.intro (fun c2 => ?_) (And.intro (fun c2 => ?_) (And.intro (fun c2 => ?_) (And.intro (fun c2 => ?_) (And.intro (fun c2 => ?_) trivial))))))
  ·
    refine sx_iconst dX12_roomOfItem_92 ⟨by decide, by decide⟩ ?_
    refine sx_ireturn dX12_roomOfItem_93 ?_
    exact ⟨_, rfl, rfl⟩
  ·
    refine sx_iconst dX12_roomOfItem_44 ⟨by decide, by decide⟩ ?_
    refine sx_ireturn dX12_roomOfItem_45 ?_
    exact ⟨_, rfl, rfl⟩
  ·
    refine sx_iload_n dX12_roomOfItem_46 rfl ?_
    refine sx_iconst dX12_roomOfItem_47 ⟨by decide, by decide⟩ ?_
    refine sx_icmp_ne (tgt := 55) dX12_roomOfItem_48 (by decide) (fun c3 => ?_) (fun c3 => ?_)
    ·
      refine sx_iconst dX12_roomOfItem_55 ⟨by decide, by decide⟩ ?_
      refine sx_ireturn dX12_roomOfItem_56 ?_
      exact ⟨_, rfl, rfl⟩
    ·
      refine sx_iconst dX12_roomOfItem_51 ⟨by decide, by decide⟩ ?_
      refine sx_goto (tgt := 56) dX12_roomOfItem_52 (by decide) ?_
      refine sx_ireturn dX12_roomOfItem_56 ?_
      exact ⟨_, rfl, rfl⟩
  ·
    refine sx_aload_n dX12_roomOfItem_57 rfl ?_
    refine sx_aload_n dX12_roomOfItem_58 rfl ?_
    refine sx_getS (k := 25) (t := 241) cl_12 fl_X12_63 dX12_roomOfItem_59 s_224 (by decide) rfl (by decide) ?_
    refine sx_iload_n dX12_roomOfItem_62 rfl ?_
    refine sy_iaF (F := fun z => (0 : Int) ≤ z ∧ z ≤ 9999) dX12_roomOfItem_63 s_241 (by decide) (by decide) ⟨by omega, by omega⟩ (hI.1 241 _) (fun r4 => ?_)
    refine sx_callVz lk_X12_582 cl_12 s_224 (by decide) dX12_roomOfItem_64 (vs := [_]) rfl rfl (Nat.le_of_ble_eq_true rfl) (Nat.le_of_ble_eq_true rfl) rfl (c_X12_isInlined _ hI.1 _) (fun x6 h5 zx6 ph5 => ?_)
    subst ph5
    refine sx_if_eq (tgt := 88) dX12_roomOfItem_67 (by decide) (fun c7 => ?_) (fun c7 => ?_)
    ·
      clear zx6
      refine sx_iconst dX12_roomOfItem_88 ⟨by decide, by decide⟩ ?_
      refine sx_ireturn dX12_roomOfItem_89 ?_
      exact ⟨_, rfl, rfl⟩
    ·
      have vx6 : x6 = 1 := by rcases zx6 with q | q; (exact absurd q c7); exact q
      clear zx6
      refine sx_aload_n dX12_roomOfItem_70 rfl ?_
      refine sx_getS (k := 89) (t := 278) cl_12 fl_X12_181 dX12_roomOfItem_71 s_224 (by decide) rfl (by decide) ?_
      refine sx_aload_n dX12_roomOfItem_74 rfl ?_
      refine sx_getS (k := 25) (t := 241) cl_12 fl_X12_63 dX12_roomOfItem_75 s_224 (by decide) rfl (by decide) ?_
      refine sx_iload_n dX12_roomOfItem_78 rfl ?_
      refine sy_iaF (F := fun z => (0 : Int) ≤ z ∧ z ≤ 9999) dX12_roomOfItem_79 s_241 (by decide) (by decide) ⟨by omega, by omega⟩ (hI.1 241 _) (fun r8 => ?_)
      refine sx_iaload dX12_roomOfItem_80 s_278 (by decide) (by decide) ⟨by omega, by omega⟩ ?_
      refine sx_iconst dX12_roomOfItem_81 ⟨by decide, by decide⟩ ?_
      refine sx_isub dX12_roomOfItem_82 ?_
      refine sx_iload_n dX12_roomOfItem_83 rfl ?_
      refine sx_isub dX12_roomOfItem_84 ?_
      refine sx_goto (tgt := 89) dX12_roomOfItem_85 (by decide) ?_
      refine sx_ireturn dX12_roomOfItem_89 ?_
      exact ⟨_, rfl, rfl⟩
  ·
    refine sx_iconst dX12_roomOfItem_92 ⟨by decide, by decide⟩ ?_
    refine sx_ireturn dX12_roomOfItem_93 ?_
    exact ⟨_, rfl, rfl⟩
  ·
    refine sx_iconst dX12_roomOfItem_92 ⟨by decide, by decide⟩ ?_
    refine sx_ireturn dX12_roomOfItem_93 ?_
    exact ⟨_, rfl, rfl⟩
  ·
    refine sx_iconst dX12_roomOfItem_90 ⟨by decide, by decide⟩ ?_
    refine sx_ireturn dX12_roomOfItem_91 ?_
    exact ⟨_, rfl, rfl⟩
set_option maxRecDepth 20000 in
set_option maxHeartbeats 4000000 in
theorem c_X12_roomBy {G : sw_G} (d : Nat) {h0 : sw_H} (hJ : mI h0) (y1 y2 : Int) (hC : mC h0) (hw : 0 ≤ y1 ∧ y1 < h0 227 (h0 224 36).toNat)  : sw_E G NH SH (d + 3) mX12_roomBy 0 [some (sw_r 224), some (sw_i y1), some (sw_i y2), none, none] [] h0 (sw_Qi (fun z h' => mK (prW [] [278]) h0 h')) := by
  have hI : mK (prW [] [278]) h0 h0 := mK.refl hJ
  have r27 : (0 : Int) ≤ h0 227 (h0 224 36).toNat ∧ h0 227 (h0 224 36).toNat ≤ 6 := hJ 227 _
  refine sx_iconst dX12_roomBy_0 ⟨by decide, by decide⟩ ?_
  refine sx_istore_n dX12_roomBy_1 (by decide) ?_
  refine sx_loop1 (fun (h : sw_H) (k : Int) => (mK (prW [] [278]) h0 h) ∧ (0 ≤ k)) (fun (h : sw_H) (k : Int) => (10 - k).toNat) (fun (h : sw_H) (k : Int) => sw_E G NH SH (d + 3) mX12_roomBy 2 [some (sw_r 224), some (sw_i y1), some (sw_i y2), some (sw_i k), none] [] h (sw_Qi (fun z h' => mK (prW [] [278]) h0 h'))) ?_ _ _ ?_
  · rintro h1 k_2 ⟨Ih1, j3⟩ ihh1
    try dsimp only at ihh1
    refine sx_iload_n dX12_roomBy_2 rfl ?_
    refine sx_iload_n dX12_roomBy_3 rfl ?_
    refine sx_icmp_gt (tgt := 62) dX12_roomBy_4 (by decide) (fun c4 => ?_) (fun c4 => ?_)
    ·
      refine sx_aload_n dX12_roomBy_62 rfl ?_
      refine sx_getS (k := 89) (t := 278) cl_12 fl_X12_181 dX12_roomBy_63 s_224 (by decide) rfl (by decide) ?_
      refine sx_iload_n dX12_roomBy_66 rfl ?_
      refine sx_iaload dX12_roomBy_67 s_278 (by decide) (by decide) ⟨by omega, by omega⟩ ?_
      refine sx_ireturn dX12_roomBy_68 ?_
      exact ⟨_, rfl, Ih1⟩
    ·
      obtain ⟨wr1, wr2, wr3, wr4⟩ := mC_w hC hJ (w := k_2) (by omega) (by omega)
      refine sx_aload_n dX12_roomBy_7 rfl ?_
      refine sx_getS (k := 89) (t := 278) cl_12 fl_X12_181 dX12_roomBy_8 s_224 (by decide) rfl (by decide) ?_
      refine sx_iload_n dX12_roomBy_11 rfl ?_
      refine sx_iconst dX12_roomBy_12 ⟨by decide, by decide⟩ ?_
      refine sx_iload_n dX12_roomBy_13 rfl ?_
      refine sx_iadd dX12_roomBy_14 ?_
      refine sy_iastore dX12_roomBy_15 s_278 (by decide) (by decide) ⟨by omega, by omega⟩ (fun h5 eh5 => ?_)
      have Ih5 := Ih1.up eh5 trivial rfl
      refine sx_iconst dX12_roomBy_16 ⟨by decide, by decide⟩ ?_
      refine sx_istore dX12_roomBy_17 (by decide) ?_
      refine sx_loop1 (fun (h : sw_H) (i : Int) => (mK (prW [] [278]) h0 h) ∧ (0 ≤ i)) (fun (h : sw_H) (i : Int) => (60 - i).toNat) (fun (h : sw_H) (i : Int) => sw_E G NH SH (d + 3) mX12_roomBy 19 [some (sw_r 224), some (sw_i y1), some (sw_i y2), some (sw_i k_2), some (sw_i i)] [] h (sw_Qi (fun z h' => mK (prW [] [278]) h0 h'))) ?_ _ _ ?_
      · rintro h6 i_7 ⟨Ih6, j8⟩ ihh6
        try dsimp only at ihh6
        refine sx_iload dX12_roomBy_19 rfl ?_
        refine sx_aload_n dX12_roomBy_21 rfl ?_
        refine sx_iload_n dX12_roomBy_22 rfl ?_
        refine sx_callVi lk_X12_546 cl_12 s_224 (by decide) dX12_roomBy_23 (vs := [_]) rfl rfl (Nat.le_of_ble_eq_true rfl) (Nat.le_of_ble_eq_true rfl) rfl (c_X12_manyIn _ Ih6.1 _ (by first | omega | (rw [Int.tmod_eq_emod_of_nonneg (by omega)]; omega) | (rw [Int.tdiv_eq_ediv_of_nonneg (by omega)]; omega))) (fun x10 h9 ph9 => ?_)
        obtain ⟨rfl, p_x10⟩ := ph9
        rw [Ih6.2 224 36 rfl, Ih6.2 234 _ rfl] at p_x10
        refine sx_icmp_ge (tgt := 56) dX12_roomBy_26 (by decide) (fun c11 => ?_) (fun c11 => ?_)
        ·
          refine sx_iinc dX12_roomBy_56 (by decide) rfl ?_
          rw [sw_w_id (by omega) (by omega)]
          refine sx_goto (tgt := 2) dX12_roomBy_59 (by decide) ?_
          refine sx_kill 4 ?_
          exact ihh1 _ _ ⟨Ih6, by omega⟩ (by exact sy_dec (by omega) (by omega))
        ·
          obtain ⟨-, ip1, ip2, -, -, ip5, -⟩ := it_P hC hJ (w := k_2) (i := i_7) (by omega) (by omega) (by omega) (by omega)
          refine sx_aload_n dX12_roomBy_29 rfl ?_
          refine sx_getS (k := 89) (t := 278) cl_12 fl_X12_181 dX12_roomBy_30 s_224 (by decide) rfl (by decide) ?_
          refine sx_iload_n dX12_roomBy_33 rfl ?_
          refine sx_dup2 dX12_roomBy_34 ?_
          refine sx_iaload dX12_roomBy_35 s_278 (by decide) (by decide) ⟨by omega, by omega⟩ ?_
          refine sx_aload_n dX12_roomBy_36 rfl ?_
          refine sx_aload_n dX12_roomBy_37 rfl ?_
          refine sx_iload_n dX12_roomBy_38 rfl ?_
          refine sx_iload dX12_roomBy_39 rfl ?_
          refine sx_callVi lk_X12_519 cl_12 s_224 (by decide) dX12_roomBy_41 (vs := [_, _]) rfl rfl (Nat.le_of_ble_eq_true rfl) (Nat.le_of_ble_eq_true rfl) rfl (c_X12_itemOf _ Ih6.1 _ _ (by first | omega | (rw [Int.tmod_eq_emod_of_nonneg (by omega)]; omega) | (rw [Int.tdiv_eq_ediv_of_nonneg (by omega)]; omega)) (by first | omega | (rw [Int.tmod_eq_emod_of_nonneg (by omega)]; omega) | (rw [Int.tdiv_eq_ediv_of_nonneg (by omega)]; omega))) (fun x13 h12 ph12 => ?_)
          obtain ⟨rfl, p_x13⟩ := ph12
          obtain ⟨qn, -, -⟩ := p_x13
          rw [Ih6.2 224 36 rfl, Ih6.2 233 _ rfl] at qn
          refine sx_iload_n dX12_roomBy_44 rfl ?_
          refine sx_callVi lk_X12_664 cl_12 s_224 (by decide) dX12_roomBy_45 (vs := [_, _]) rfl rfl (Nat.le_of_ble_eq_true rfl) (Nat.le_of_ble_eq_true rfl) rfl (c_X12_roomOfItem _ Ih6.1 _ _ (by omega) (by rw [Ih6.2 240 _ rfl, Ih6.2 241 _ rfl, qn]; exact ip5)) (fun x15 h14 ph14 => ?_)
          subst ph14
          refine sx_iadd dX12_roomBy_48 ?_
          refine sy_iastore dX12_roomBy_49 s_278 (by decide) (by decide) ⟨by omega, by omega⟩ (fun h16 eh16 => ?_)
          have Ih16 := Ih6.up eh16 trivial rfl
          refine sx_iinc dX12_roomBy_50 (by decide) rfl ?_
          rw [sw_w_id (by omega) (by omega)]
          refine sx_goto (tgt := 19) dX12_roomBy_53 (by decide) ?_
          exact ihh6 _ _ ⟨Ih16, by omega⟩ (by exact sy_dec (by omega) (by omega))
      · exact ⟨Ih5, by omega⟩
  · exact ⟨hI, by omega⟩
set_option maxRecDepth 20000 in
set_option maxHeartbeats 4000000 in
theorem c_X12_time {G : sw_G} (d : Nat) {h0 : sw_H} (hJ : mI h0) (y1 y2 : Int) (hB : mB h0)  : sw_E G NH SH (d + 5) mX12_time 0 [some (sw_r 224), some (sw_i y1), some (sw_i y2)] [] h0 (sw_Qi (fun z h' => mK (prW [59, 60] [251, 275, 276, 277]) h0 h' ∧ (mB h') ∧ (h' 224 100 = h0 224 100))) := by
  have hI : mK (prW [59, 60] [251, 275, 276, 277]) h0 h0 := mK.refl hJ
  refine sx_aload_n dX12_time_0 rfl ?_
  refine sx_iload_n dX12_time_1 rfl ?_
  refine sx_callVz lk_X12_570 cl_12 s_224 (by decide) dX12_time_2 (vs := [_]) rfl rfl (Nat.le_of_ble_eq_true rfl) (Nat.le_of_ble_eq_true rfl) rfl (c_X12_isOne _ hI.1 _) (fun x2 h1 zx2 ph1 => ?_)
  obtain ⟨rfl, p_x2⟩ := ph1
  refine sx_if_eq (tgt := 25) dX12_time_5 (by decide) (fun c3 => ?_) (fun c3 => ?_)
  ·
    replace p_x2 := mt p_x2.mpr (show ¬ (x2 = 1) by rw [c3]; decide)
    clear zx2
    refine sx_iconst dX12_time_25 ⟨by decide, by decide⟩ ?_
    refine sx_ireturn dX12_time_26 ?_
    exact ⟨_, rfl, ⟨hI, mB_mK hI rfl rfl hJ hB, hI.2 224 100 rfl⟩⟩
  ·
    have vx2 : x2 = 1 := by rcases zx2 with q | q; (exact absurd q c3); exact q
    replace p_x2 := p_x2.mp vx2
    clear zx2
    refine sx_aload_n dX12_time_8 rfl ?_
    refine sx_iload_n dX12_time_9 rfl ?_
    refine sx_callVz lk_X12_667 cl_12 s_224 (by decide) dX12_time_10 (vs := [_]) rfl rfl (Nat.le_of_ble_eq_true rfl) (Nat.le_of_ble_eq_true rfl) rfl (c_X12_isForm _ hI.1 _) (fun x5 h4 zx5 ph4 => ?_)
    obtain ⟨rfl, p_x5⟩ := ph4
    refine sx_if_eq (tgt := 25) dX12_time_13 (by decide) (fun c6 => ?_) (fun c6 => ?_)
    ·
      replace p_x5 := mt p_x5.mpr (show ¬ (x5 = 1) by rw [c6]; decide)
      clear zx5
      refine sx_iconst dX12_time_25 ⟨by decide, by decide⟩ ?_
      refine sx_ireturn dX12_time_26 ?_
      exact ⟨_, rfl, ⟨hI, mB_mK hI rfl rfl hJ hB, hI.2 224 100 rfl⟩⟩
    ·
      have vx5 : x5 = 1 := by rcases zx5 with q | q; (exact absurd q c6); exact q
      replace p_x5 := p_x5.mp vx5
      clear zx5
      refine sx_aload_n dX12_time_16 rfl ?_
      refine sx_iload_n dX12_time_17 rfl ?_
      refine sx_iload_n dX12_time_18 rfl ?_
      refine sx_callVi lk_X12_670 cl_12 s_224 (by decide) dX12_time_19 (vs := [_, _]) rfl rfl (Nat.le_of_ble_eq_true rfl) (Nat.le_of_ble_eq_true rfl) rfl (c_X12_timeBy _ hI.1 _ _ (hB.1) (by omega)) (fun x8 h7 ph7 => ?_)
      have Kh7 := ph7
      have Ih7 := hI.tr Kh7 (prW_sub rfl rfl)
      have th7_224_71 := Kh7.2 224 71 rfl
      have th7_224_73 := Kh7.2 224 73 rfl
      have th7_224_74 := Kh7.2 224 74 rfl
      have th7_224_85 := Kh7.2 224 85 rfl
      have th7_224_100 := Kh7.2 224 100 rfl
      refine sx_goto (tgt := 26) dX12_time_22 (by decide) ?_
      refine sx_ireturn dX12_time_26 ?_
      exact ⟨_, rfl, ⟨Ih7, mB_mK Ih7 rfl rfl hJ hB, Ih7.2 224 100 rfl⟩⟩
set_option maxRecDepth 20000 in
set_option maxHeartbeats 4000000 in
theorem c_X12_room {G : sw_G} (d : Nat) {h0 : sw_H} (hJ : mI h0) (y1 y2 : Int) (hB : mB h0)  : sw_E G NH SH (d + 4) mX12_room 0 [some (sw_r 224), some (sw_i y1), some (sw_i y2)] [] h0 (sw_Qi (fun z h' => mK (prW [] [278]) h0 h' ∧ (mB h') ∧ (h' 224 100 = h0 224 100))) := by
  have hI : mK (prW [] [278]) h0 h0 := mK.refl hJ
  refine sx_aload_n dX12_room_0 rfl ?_
  refine sx_iload_n dX12_room_1 rfl ?_
  refine sx_callVz lk_X12_570 cl_12 s_224 (by decide) dX12_room_2 (vs := [_]) rfl rfl (Nat.le_of_ble_eq_true rfl) (Nat.le_of_ble_eq_true rfl) rfl (c_X12_isOne _ hI.1 _) (fun x2 h1 zx2 ph1 => ?_)
  obtain ⟨rfl, p_x2⟩ := ph1
  refine sx_if_eq (tgt := 25) dX12_room_5 (by decide) (fun c3 => ?_) (fun c3 => ?_)
  ·
    replace p_x2 := mt p_x2.mpr (show ¬ (x2 = 1) by rw [c3]; decide)
    clear zx2
    refine sx_iconst dX12_room_25 ⟨by decide, by decide⟩ ?_
    refine sx_ireturn dX12_room_26 ?_
    exact ⟨_, rfl, ⟨hI, mB_mK hI rfl rfl hJ hB, hI.2 224 100 rfl⟩⟩
  ·
    have vx2 : x2 = 1 := by rcases zx2 with q | q; (exact absurd q c3); exact q
    replace p_x2 := p_x2.mp vx2
    clear zx2
    refine sx_aload_n dX12_room_8 rfl ?_
    refine sx_iload_n dX12_room_9 rfl ?_
    refine sx_callVz lk_X12_667 cl_12 s_224 (by decide) dX12_room_10 (vs := [_]) rfl rfl (Nat.le_of_ble_eq_true rfl) (Nat.le_of_ble_eq_true rfl) rfl (c_X12_isForm _ hI.1 _) (fun x5 h4 zx5 ph4 => ?_)
    obtain ⟨rfl, p_x5⟩ := ph4
    refine sx_if_eq (tgt := 25) dX12_room_13 (by decide) (fun c6 => ?_) (fun c6 => ?_)
    ·
      replace p_x5 := mt p_x5.mpr (show ¬ (x5 = 1) by rw [c6]; decide)
      clear zx5
      refine sx_iconst dX12_room_25 ⟨by decide, by decide⟩ ?_
      refine sx_ireturn dX12_room_26 ?_
      exact ⟨_, rfl, ⟨hI, mB_mK hI rfl rfl hJ hB, hI.2 224 100 rfl⟩⟩
    ·
      have vx5 : x5 = 1 := by rcases zx5 with q | q; (exact absurd q c6); exact q
      replace p_x5 := p_x5.mp vx5
      clear zx5
      refine sx_aload_n dX12_room_16 rfl ?_
      refine sx_iload_n dX12_room_17 rfl ?_
      refine sx_iload_n dX12_room_18 rfl ?_
      refine sx_callVi lk_X12_673 cl_12 s_224 (by decide) dX12_room_19 (vs := [_, _]) rfl rfl (Nat.le_of_ble_eq_true rfl) (Nat.le_of_ble_eq_true rfl) rfl (c_X12_roomBy _ hI.1 _ _ (hB.1) (by omega)) (fun x8 h7 ph7 => ?_)
      have Kh7 := ph7
      have Ih7 := hI.tr Kh7 (prW_sub rfl rfl)
      have th7_224_71 := Kh7.2 224 71 rfl
      have th7_224_73 := Kh7.2 224 73 rfl
      have th7_224_74 := Kh7.2 224 74 rfl
      have th7_224_85 := Kh7.2 224 85 rfl
      have th7_224_100 := Kh7.2 224 100 rfl
      refine sx_goto (tgt := 26) dX12_room_22 (by decide) ?_
      refine sx_ireturn dX12_room_26 ?_
      exact ⟨_, rfl, ⟨Ih7, mB_mK Ih7 rfl rfl hJ hB, Ih7.2 224 100 rfl⟩⟩
set_option maxRecDepth 20000 in
set_option maxHeartbeats 4000000 in
theorem c_X12_best {G : sw_G} (d : Nat) {h0 : sw_H} (hJ : mI h0) (y1 : Int) (hB : mB h0)  : sw_E G NH SH (d + 5) mX12_best 0 [some (sw_r 224), some (sw_i y1), none, none, none] [] h0 (sw_Qi (fun z h' => mK (prW [59, 60] [251, 275, 276, 277, 278]) h0 h' ∧ (mB h') ∧ (h' 224 100 = h0 224 100))) := by
  have hI : mK (prW [59, 60] [251, 275, 276, 277, 278]) h0 h0 := mK.refl hJ
  refine sx_aload_n dX12_best_0 rfl ?_
  refine sx_iload_n dX12_best_1 rfl ?_
  refine sx_callVz lk_X12_570 cl_12 s_224 (by decide) dX12_best_2 (vs := [_]) rfl rfl (Nat.le_of_ble_eq_true rfl) (Nat.le_of_ble_eq_true rfl) rfl (c_X12_isOne _ hI.1 _) (fun x2 h1 zx2 ph1 => ?_)
  obtain ⟨rfl, p_x2⟩ := ph1
  refine sx_if_ne (tgt := 10) dX12_best_5 (by decide) (fun c3 => ?_) (fun c3 => ?_)
  ·
    have vx2 : x2 = 1 := by rcases zx2 with q | q; (exact absurd q c3); exact q
    replace p_x2 := p_x2.mp vx2
    clear zx2
    refine sx_iconst dX12_best_10 ⟨by decide, by decide⟩ ?_
    refine sx_istore_n dX12_best_11 (by decide) ?_
    refine sx_iconst dX12_best_12 ⟨by decide, by decide⟩ ?_
    refine sx_istore_n dX12_best_13 (by decide) ?_
    refine sx_loop2 (fun (h : sw_H) (its : Int) (f : Int) => (mK (prW [59, 60] [251, 275, 276, 277, 278]) h0 h) ∧ (0 ≤ f)) (fun (h : sw_H) (its : Int) (f : Int) => (10 - f).toNat) (fun (h : sw_H) (its : Int) (f : Int) => sw_E G NH SH (d + 5) mX12_best 14 [some (sw_r 224), some (sw_i y1), some (sw_i its), some (sw_i f), none] [] h (sw_Qi (fun z h' => mK (prW [59, 60] [251, 275, 276, 277, 278]) h0 h' ∧ (mB h') ∧ (h' 224 100 = h0 224 100)))) ?_ _ _ _ ?_
    · rintro h4 its_5 f_6 ⟨Ih4, j7⟩ ihh4
      try dsimp only at ihh4
      refine sx_iload_n dX12_best_14 rfl ?_
      refine sx_iconst dX12_best_15 ⟨by decide, by decide⟩ ?_
      refine sx_icmp_ge (tgt := 67) dX12_best_16 (by decide) (fun c8 => ?_) (fun c8 => ?_)
      ·
        refine sx_iload_n dX12_best_67 rfl ?_
        refine sx_ireturn dX12_best_68 ?_
        exact ⟨_, rfl, ⟨Ih4, mB_mK Ih4 rfl rfl hJ hB, Ih4.2 224 100 rfl⟩⟩
      ·
        refine sx_aload_n dX12_best_19 rfl ?_
        refine sx_iload_n dX12_best_20 rfl ?_
        refine sx_iload_n dX12_best_21 rfl ?_
        refine sx_callVi lk_X12_670 cl_12 s_224 (by decide) dX12_best_22 (vs := [_, _]) rfl rfl (Nat.le_of_ble_eq_true rfl) (Nat.le_of_ble_eq_true rfl) rfl (c_X12_timeBy _ Ih4.1 _ _ (mC_mK Ih4 rfl rfl hJ hB.1) (by rw [Ih4.2 224 36 rfl, Ih4.2 227 _ rfl]; omega)) (fun x10 h9 ph9 => ?_)
        have Kh9 := ph9
        have Ih9 := Ih4.tr Kh9 (prW_sub rfl rfl)
        have th9_224_71 := Kh9.2 224 71 rfl
        have th9_224_73 := Kh9.2 224 73 rfl
        have th9_224_74 := Kh9.2 224 74 rfl
        have th9_224_85 := Kh9.2 224 85 rfl
        have th9_224_100 := Kh9.2 224 100 rfl
        refine sx_aload_n dX12_best_25 rfl ?_
        refine sx_iload_n dX12_best_26 rfl ?_
        refine sx_iload_n dX12_best_27 rfl ?_
        refine sx_callVi lk_X12_670 cl_12 s_224 (by decide) dX12_best_28 (vs := [_, _]) rfl rfl (Nat.le_of_ble_eq_true rfl) (Nat.le_of_ble_eq_true rfl) rfl (c_X12_timeBy _ Ih9.1 _ _ (mC_mK Ih9 rfl rfl hJ hB.1) (by rw [Ih9.2 224 36 rfl, Ih9.2 227 _ rfl]; omega)) (fun x12 h11 ph11 => ?_)
        have Kh11 := ph11
        have Ih11 := Ih9.tr Kh11 (prW_sub rfl rfl)
        have th11_224_71 := Kh11.2 224 71 rfl
        have th11_224_73 := Kh11.2 224 73 rfl
        have th11_224_74 := Kh11.2 224 74 rfl
        have th11_224_85 := Kh11.2 224 85 rfl
        have th11_224_100 := Kh11.2 224 100 rfl
        refine sx_isub dX12_best_31 ?_
        refine sy_top (fun v13 ev13 => ?_)
        refine sx_istore dX12_best_32 (by decide) ?_
        refine sx_iload dX12_best_34 rfl ?_
        refine sx_if_gt (tgt := 59) dX12_best_36 (by decide) (fun c14 => ?_) (fun c14 => ?_)
        ·
          refine sx_iload_n dX12_best_59 rfl ?_
          refine sx_istore_n dX12_best_60 (by decide) ?_
          refine sx_iinc dX12_best_61 (by decide) rfl ?_
          rw [sw_w_id (by omega) (by omega)]
          refine sx_goto (tgt := 14) dX12_best_64 (by decide) ?_
          refine sx_kill 4 ?_
          exact ihh4 _ _ _ ⟨Ih11, by omega⟩ (by exact sy_dec (by omega) (by omega))
        ·
          refine sx_iload dX12_best_39 rfl ?_
          refine sx_if_ne (tgt := 61) dX12_best_41 (by decide) (fun c15 => ?_) (fun c15 => ?_)
          ·
            refine sx_iinc dX12_best_61 (by decide) rfl ?_
            rw [sw_w_id (by omega) (by omega)]
            refine sx_goto (tgt := 14) dX12_best_64 (by decide) ?_
            refine sx_kill 4 ?_
            exact ihh4 _ _ _ ⟨Ih11, by omega⟩ (by exact sy_dec (by omega) (by omega))
          ·
            refine sx_aload_n dX12_best_44 rfl ?_
            refine sx_iload_n dX12_best_45 rfl ?_
            refine sx_iload_n dX12_best_46 rfl ?_
            refine sx_callVi lk_X12_673 cl_12 s_224 (by decide) dX12_best_47 (vs := [_, _]) rfl rfl (Nat.le_of_ble_eq_true rfl) (Nat.le_of_ble_eq_true rfl) rfl (c_X12_roomBy _ Ih11.1 _ _ (mC_mK Ih11 rfl rfl hJ hB.1) (by rw [Ih11.2 224 36 rfl, Ih11.2 227 _ rfl]; omega)) (fun x17 h16 ph16 => ?_)
            have Kh16 := ph16
            have Ih16 := Ih11.tr Kh16 (prW_sub rfl rfl)
            have th16_224_71 := Kh16.2 224 71 rfl
            have th16_224_73 := Kh16.2 224 73 rfl
            have th16_224_74 := Kh16.2 224 74 rfl
            have th16_224_85 := Kh16.2 224 85 rfl
            have th16_224_100 := Kh16.2 224 100 rfl
            refine sx_aload_n dX12_best_50 rfl ?_
            refine sx_iload_n dX12_best_51 rfl ?_
            refine sx_iload_n dX12_best_52 rfl ?_
            refine sx_callVi lk_X12_673 cl_12 s_224 (by decide) dX12_best_53 (vs := [_, _]) rfl rfl (Nat.le_of_ble_eq_true rfl) (Nat.le_of_ble_eq_true rfl) rfl (c_X12_roomBy _ Ih16.1 _ _ (mC_mK Ih16 rfl rfl hJ hB.1) (by rw [Ih16.2 224 36 rfl, Ih16.2 227 _ rfl]; omega)) (fun x19 h18 ph18 => ?_)
            have Kh18 := ph18
            have Ih18 := Ih16.tr Kh18 (prW_sub rfl rfl)
            have th18_224_71 := Kh18.2 224 71 rfl
            have th18_224_73 := Kh18.2 224 73 rfl
            have th18_224_74 := Kh18.2 224 74 rfl
            have th18_224_85 := Kh18.2 224 85 rfl
            have th18_224_100 := Kh18.2 224 100 rfl
            refine sx_icmp_ge (tgt := 61) dX12_best_56 (by decide) (fun c20 => ?_) (fun c20 => ?_)
            ·
              refine sx_iinc dX12_best_61 (by decide) rfl ?_
              rw [sw_w_id (by omega) (by omega)]
              refine sx_goto (tgt := 14) dX12_best_64 (by decide) ?_
              refine sx_kill 4 ?_
              exact ihh4 _ _ _ ⟨Ih18, by omega⟩ (by exact sy_dec (by omega) (by omega))
            ·
              refine sx_iload_n dX12_best_59 rfl ?_
              refine sx_istore_n dX12_best_60 (by decide) ?_
              refine sx_iinc dX12_best_61 (by decide) rfl ?_
              rw [sw_w_id (by omega) (by omega)]
              refine sx_goto (tgt := 14) dX12_best_64 (by decide) ?_
              refine sx_kill 4 ?_
              exact ihh4 _ _ _ ⟨Ih18, by omega⟩ (by exact sy_dec (by omega) (by omega))
    · exact ⟨hI, by omega⟩
  ·
    replace p_x2 := mt p_x2.mpr (show ¬ (x2 = 1) by rw [c3]; decide)
    clear zx2
    refine sx_iconst dX12_best_8 ⟨by decide, by decide⟩ ?_
    refine sx_ireturn dX12_best_9 ?_
    exact ⟨_, rfl, ⟨hI, mB_mK hI rfl rfl hJ hB, hI.2 224 100 rfl⟩⟩
set_option maxRecDepth 20000 in
set_option maxHeartbeats 4000000 in
theorem c_X12_total {G : sw_G} (d : Nat) {h0 : sw_H} (hJ : mI h0) (y1 : Int) (hB : mB h0)  : sw_E G NH SH (d + 4) mX12_total 0 [some (sw_r 224), some (sw_i y1), none, none] [] h0 (sw_Qi (fun z h' => mK (prW [] [278]) h0 h' ∧ (mB h') ∧ (h' 224 100 = h0 224 100))) := by
  have hI : mK (prW [] [278]) h0 h0 := mK.refl hJ
  have r27 : (0 : Int) ≤ h0 227 (h0 224 36).toNat ∧ h0 227 (h0 224 36).toNat ≤ 6 := hJ 227 _
  refine sx_aload_n dX12_total_0 rfl ?_
  refine sx_iload_n dX12_total_1 rfl ?_
  refine sx_callVz lk_X12_667 cl_12 s_224 (by decide) dX12_total_2 (vs := [_]) rfl rfl (Nat.le_of_ble_eq_true rfl) (Nat.le_of_ble_eq_true rfl) rfl (c_X12_isForm _ hI.1 _) (fun x2 h1 zx2 ph1 => ?_)
  obtain ⟨rfl, p_x2⟩ := ph1
  refine sx_if_ne (tgt := 10) dX12_total_5 (by decide) (fun c3 => ?_) (fun c3 => ?_)
  ·
    have vx2 : x2 = 1 := by rcases zx2 with q | q; (exact absurd q c3); exact q
    replace p_x2 := p_x2.mp vx2
    clear zx2
    refine sx_iconst dX12_total_10 ⟨by decide, by decide⟩ ?_
    refine sx_istore_n dX12_total_11 (by decide) ?_
    refine sx_iconst dX12_total_12 ⟨by decide, by decide⟩ ?_
    refine sx_istore_n dX12_total_13 (by decide) ?_
    refine sx_loop2 (fun (h : sw_H) (sum : Int) (w : Int) => (mK (prW [] [278]) h0 h) ∧ (0 ≤ w)) (fun (h : sw_H) (sum : Int) (w : Int) => (10 - w).toNat) (fun (h : sw_H) (sum : Int) (w : Int) => sw_E G NH SH (d + 4) mX12_total 14 [some (sw_r 224), some (sw_i y1), some (sw_i sum), some (sw_i w)] [] h (sw_Qi (fun z h' => mK (prW [] [278]) h0 h' ∧ (mB h') ∧ (h' 224 100 = h0 224 100)))) ?_ _ _ _ ?_
    · rintro h4 sum_5 w_6 ⟨Ih4, j7⟩ ihh4
      try dsimp only at ihh4
      refine sx_iload_n dX12_total_14 rfl ?_
      refine sx_aload_n dX12_total_15 rfl ?_
      refine sx_callVi lk_X12_497 cl_12 s_224 (by decide) dX12_total_16 (vs := []) rfl rfl (Nat.le_of_ble_eq_true rfl) (Nat.le_of_ble_eq_true rfl) rfl (c_X12_lots _ Ih4.1) (fun x9 h8 ph8 => ?_)
      obtain ⟨rfl, p_x9⟩ := ph8
      rw [Ih4.2 224 36 rfl, Ih4.2 227 _ rfl] at p_x9
      refine sx_icmp_ge (tgt := 49) dX12_total_19 (by decide) (fun c10 => ?_) (fun c10 => ?_)
      ·
        refine sx_iload_n dX12_total_49 rfl ?_
        refine sx_ireturn dX12_total_50 ?_
        exact ⟨_, rfl, ⟨Ih4, mB_mK Ih4 rfl rfl hJ hB, Ih4.2 224 100 rfl⟩⟩
      ·
        refine sx_iload_n dX12_total_22 rfl ?_
        refine sx_aload_n dX12_total_23 rfl ?_
        refine sx_iload_n dX12_total_24 rfl ?_
        refine sx_callVz lk_X12_582 cl_12 s_224 (by decide) dX12_total_25 (vs := [_]) rfl rfl (Nat.le_of_ble_eq_true rfl) (Nat.le_of_ble_eq_true rfl) rfl (c_X12_isInlined _ Ih4.1 _) (fun x12 h11 zx12 ph11 => ?_)
        subst ph11
        refine sx_if_eq (tgt := 35) dX12_total_28 (by decide) (fun c13 => ?_) (fun c13 => ?_)
        ·
          clear zx12
          refine sx_aload_n dX12_total_35 rfl ?_
          refine sx_iload_n dX12_total_36 rfl ?_
          refine sx_iload_n dX12_total_37 rfl ?_
          refine sx_callVi lk_X12_673 cl_12 s_224 (by decide) dX12_total_38 (vs := [_, _]) rfl rfl (Nat.le_of_ble_eq_true rfl) (Nat.le_of_ble_eq_true rfl) rfl (c_X12_roomBy _ Ih4.1 _ _ (mC_mK Ih4 rfl rfl hJ hB.1) (by rw [Ih4.2 224 36 rfl, Ih4.2 227 _ rfl]; omega)) (fun x15 h14 ph14 => ?_)
          have Kh14 := ph14
          have Ih14 := Ih4.tr Kh14 (prW_sub rfl rfl)
          have th14_224_71 := Kh14.2 224 71 rfl
          have th14_224_73 := Kh14.2 224 73 rfl
          have th14_224_74 := Kh14.2 224 74 rfl
          have th14_224_85 := Kh14.2 224 85 rfl
          have th14_224_100 := Kh14.2 224 100 rfl
          refine sx_iadd dX12_total_41 ?_
          refine sy_top (fun v16 ev16 => ?_)
          refine sx_istore_n dX12_total_42 (by decide) ?_
          refine sx_iinc dX12_total_43 (by decide) rfl ?_
          rw [sw_w_id (by omega) (by omega)]
          refine sx_goto (tgt := 14) dX12_total_46 (by decide) ?_
          exact ihh4 _ _ _ ⟨Ih14, by omega⟩ (by exact sy_dec (by omega) (by omega))
        ·
          have vx12 : x12 = 1 := by rcases zx12 with q | q; (exact absurd q c13); exact q
          clear zx12
          refine sx_iconst dX12_total_31 ⟨by decide, by decide⟩ ?_
          refine sx_goto (tgt := 41) dX12_total_32 (by decide) ?_
          refine sx_iadd dX12_total_41 ?_
          refine sy_top (fun v17 ev17 => ?_)
          refine sx_istore_n dX12_total_42 (by decide) ?_
          refine sx_iinc dX12_total_43 (by decide) rfl ?_
          rw [sw_w_id (by omega) (by omega)]
          refine sx_goto (tgt := 14) dX12_total_46 (by decide) ?_
          exact ihh4 _ _ _ ⟨Ih4, by omega⟩ (by exact sy_dec (by omega) (by omega))
    · exact ⟨hI, by omega⟩
  ·
    replace p_x2 := mt p_x2.mpr (show ¬ (x2 = 1) by rw [c3]; decide)
    clear zx2
    refine sx_iconst dX12_total_8 ⟨by decide, by decide⟩ ?_
    refine sx_ireturn dX12_total_9 ?_
    exact ⟨_, rfl, ⟨hI, mB_mK hI rfl rfl hJ hB, hI.2 224 100 rfl⟩⟩
set_option maxRecDepth 20000 in
set_option maxHeartbeats 4000000 in
theorem c_X12_pick {G : sw_G} (d : Nat) {h0 : sw_H} (hJ : mI h0) (y1 : Int) (hB : mB h0)  : sw_E G NH SH (d + 5) mX12_pick 0 [some (sw_r 224), some (sw_i y1), none, none, none, none] [] h0 (sw_Qi (fun z h' => mK (prW [59, 60] [251, 261, 275, 276, 277]) h0 h' ∧ (mB h') ∧ (h' 224 100 = h0 224 100))) := by
  have hI : mK (prW [59, 60] [251, 261, 275, 276, 277]) h0 h0 := mK.refl hJ
  have r27 : (0 : Int) ≤ h0 227 (h0 224 36).toNat ∧ h0 227 (h0 224 36).toNat ≤ 6 := hJ 227 _
  refine sx_aload_n dX12_pick_0 rfl ?_
  refine sx_iload_n dX12_pick_1 rfl ?_
  refine sx_callVz lk_X12_667 cl_12 s_224 (by decide) dX12_pick_2 (vs := [_]) rfl rfl (Nat.le_of_ble_eq_true rfl) (Nat.le_of_ble_eq_true rfl) rfl (c_X12_isForm _ hI.1 _) (fun x2 h1 zx2 ph1 => ?_)
  obtain ⟨rfl, p_x2⟩ := ph1
  refine sx_if_eq (tgt := 15) dX12_pick_5 (by decide) (fun c3 => ?_) (fun c3 => ?_)
  ·
    replace p_x2 := mt p_x2.mpr (show ¬ (x2 = 1) by rw [c3]; decide)
    clear zx2
    refine sx_iconst dX12_pick_15 ⟨by decide, by decide⟩ ?_
    refine sx_ireturn dX12_pick_16 ?_
    exact ⟨_, rfl, ⟨hI, mB_mK hI rfl rfl hJ hB, hI.2 224 100 rfl⟩⟩
  ·
    have vx2 : x2 = 1 := by rcases zx2 with q | q; (exact absurd q c3); exact q
    replace p_x2 := p_x2.mp vx2
    clear zx2
    refine sx_aload_n dX12_pick_8 rfl ?_
    refine sx_callVi lk_X12_497 cl_12 s_224 (by decide) dX12_pick_9 (vs := []) rfl rfl (Nat.le_of_ble_eq_true rfl) (Nat.le_of_ble_eq_true rfl) rfl (c_X12_lots _ hI.1) (fun x5 h4 ph4 => ?_)
    obtain ⟨rfl, p_x5⟩ := ph4
    refine sx_if_ne (tgt := 17) dX12_pick_12 (by decide) (fun c6 => ?_) (fun c6 => ?_)
    ·
      refine sx_iconst dX12_pick_17 ⟨by decide, by decide⟩ ?_
      refine sx_istore_n dX12_pick_18 (by decide) ?_
      refine sx_aload_n dX12_pick_19 rfl ?_
      refine sx_aload_n dX12_pick_20 rfl ?_
      refine sx_callVi lk_X12_497 cl_12 s_224 (by decide) dX12_pick_21 (vs := []) rfl rfl (Nat.le_of_ble_eq_true rfl) (Nat.le_of_ble_eq_true rfl) rfl (c_X12_lots _ hI.1) (fun x8 h7 ph7 => ?_)
      obtain ⟨rfl, p_x8⟩ := ph7
      refine sx_iconst dX12_pick_24 ⟨by decide, by decide⟩ ?_
      refine sx_isub dX12_pick_25 ?_
      refine sy_topw (by omega) ?_
      refine sx_iload_n dX12_pick_26 rfl ?_
      refine sx_callVi lk_X12_670 cl_12 s_224 (by decide) dX12_pick_27 (vs := [_, _]) rfl rfl (Nat.le_of_ble_eq_true rfl) (Nat.le_of_ble_eq_true rfl) rfl (c_X12_timeBy _ hI.1 _ _ (mC_mK hI rfl rfl hJ hB.1) (by rw [hI.2 224 36 rfl, hI.2 227 _ rfl]; omega)) (fun x10 h9 ph9 => ?_)
      have Kh9 := ph9
      have Ih9 := hI.tr Kh9 (prW_sub rfl rfl)
      have th9_224_71 := Kh9.2 224 71 rfl
      have th9_224_73 := Kh9.2 224 73 rfl
      have th9_224_74 := Kh9.2 224 74 rfl
      have th9_224_85 := Kh9.2 224 85 rfl
      have th9_224_100 := Kh9.2 224 100 rfl
      refine sx_istore_n dX12_pick_30 (by decide) ?_
      refine sx_iconst dX12_pick_31 ⟨by decide, by decide⟩ ?_
      refine sx_istore dX12_pick_32 (by decide) ?_
      refine sx_loop3 (fun (h : sw_H) (best : Int) (least : Int) (w : Int) => (mK (prW [59, 60] [251, 261, 275, 276, 277]) h0 h) ∧ (0 ≤ w)) (fun (h : sw_H) (best : Int) (least : Int) (w : Int) => (10 - w).toNat) (fun (h : sw_H) (best : Int) (least : Int) (w : Int) => sw_E G NH SH (d + 5) mX12_pick 34 [some (sw_r 224), some (sw_i y1), some (sw_i best), some (sw_i least), some (sw_i w), none] [] h (sw_Qi (fun z h' => mK (prW [59, 60] [251, 261, 275, 276, 277]) h0 h' ∧ (mB h') ∧ (h' 224 100 = h0 224 100)))) ?_ _ _ _ _ ?_
      · rintro h11 best_12 least_13 w_14 ⟨Ih11, j15⟩ ihh11
        try dsimp only at ihh11
        refine sx_iload dX12_pick_34 rfl ?_
        refine sx_aload_n dX12_pick_36 rfl ?_
        refine sx_callVi lk_X12_497 cl_12 s_224 (by decide) dX12_pick_37 (vs := []) rfl rfl (Nat.le_of_ble_eq_true rfl) (Nat.le_of_ble_eq_true rfl) rfl (c_X12_lots _ Ih11.1) (fun x17 h16 ph16 => ?_)
        obtain ⟨rfl, p_x17⟩ := ph16
        rw [Ih11.2 224 36 rfl, Ih11.2 227 _ rfl] at p_x17
        refine sx_icmp_ge (tgt := 117) dX12_pick_40 (by decide) (fun c18 => ?_) (fun c18 => ?_)
        ·
          refine sx_iload_n dX12_pick_117 rfl ?_
          refine sx_ireturn dX12_pick_118 ?_
          exact ⟨_, rfl, ⟨Ih11, mB_mK Ih11 rfl rfl hJ hB, Ih11.2 224 100 rfl⟩⟩
        ·
          refine sx_aload_n dX12_pick_43 rfl ?_
          refine sx_iload dX12_pick_44 rfl ?_
          refine sx_callVz lk_X12_582 cl_12 s_224 (by decide) dX12_pick_46 (vs := [_]) rfl rfl (Nat.le_of_ble_eq_true rfl) (Nat.le_of_ble_eq_true rfl) rfl (c_X12_isInlined _ Ih11.1 _) (fun x20 h19 zx20 ph19 => ?_)
          subst ph19
          refine sx_if_eq (tgt := 55) dX12_pick_49 (by decide) (fun c21 => ?_) (fun c21 => ?_)
          ·
            clear zx20
            refine sx_aload_n dX12_pick_55 rfl ?_
            refine sx_getS (k := 61) (t := 261) cl_12 fl_X12_124 dX12_pick_56 s_224 (by decide) rfl (by decide) ?_
            refine sx_bipush dX12_pick_59 ⟨by decide, by decide, by decide⟩ ?_
            refine sx_dup2 dX12_pick_61 ?_
            refine sx_iaload dX12_pick_62 s_261 (by decide) (by decide) ⟨by omega, by omega⟩ ?_
            refine sx_iconst dX12_pick_63 ⟨by decide, by decide⟩ ?_
            refine sx_iload dX12_pick_64 rfl ?_
            refine sx_ishl dX12_pick_66 ?_
            refine sx_ixor dX12_pick_67 ?_
            refine sy_iastore dX12_pick_68 s_261 (by decide) (by decide) ⟨by omega, by omega⟩ (fun h22 eh22 => ?_)
            have Ih22 := Ih11.up eh22 (by exact omc_all_lt (Or.inl rfl) (by decide) (by decide)) rfl
            have th22_224_71 := eh22.2 (224) 71 (fun q => absurd q.1 (by decide))
            have th22_224_73 := eh22.2 (224) 73 (fun q => absurd q.1 (by decide))
            have th22_224_74 := eh22.2 (224) 74 (fun q => absurd q.1 (by decide))
            have th22_224_85 := eh22.2 (224) 85 (fun q => absurd q.1 (by decide))
            have th22_224_100 := eh22.2 (224) 100 (fun q => absurd q.1 (by decide))
            refine sx_aload_n dX12_pick_69 rfl ?_
            refine sx_aload_n dX12_pick_70 rfl ?_
            refine sx_callVi lk_X12_497 cl_12 s_224 (by decide) dX12_pick_71 (vs := []) rfl rfl (Nat.le_of_ble_eq_true rfl) (Nat.le_of_ble_eq_true rfl) rfl (c_X12_lots _ Ih22.1) (fun x24 h23 ph23 => ?_)
            obtain ⟨rfl, p_x24⟩ := ph23
            rw [Ih22.2 224 36 rfl, Ih22.2 227 _ rfl] at p_x24
            refine sx_iconst dX12_pick_74 ⟨by decide, by decide⟩ ?_
            refine sx_isub dX12_pick_75 ?_
            refine sy_topw (by omega) ?_
            refine sx_iload_n dX12_pick_76 rfl ?_
            refine sx_callVi lk_X12_670 cl_12 s_224 (by decide) dX12_pick_77 (vs := [_, _]) rfl rfl (Nat.le_of_ble_eq_true rfl) (Nat.le_of_ble_eq_true rfl) rfl (c_X12_timeBy _ Ih22.1 _ _ (mC_mK Ih22 rfl rfl hJ hB.1) (by rw [Ih22.2 224 36 rfl, Ih22.2 227 _ rfl]; omega)) (fun x26 h25 ph25 => ?_)
            have Kh25 := ph25
            have Ih25 := Ih22.tr Kh25 (prW_sub rfl rfl)
            have th25_224_71 := Kh25.2 224 71 rfl
            have th25_224_73 := Kh25.2 224 73 rfl
            have th25_224_74 := Kh25.2 224 74 rfl
            have th25_224_85 := Kh25.2 224 85 rfl
            have th25_224_100 := Kh25.2 224 100 rfl
            refine sx_istore dX12_pick_80 (by decide) ?_
            refine sx_aload_n dX12_pick_82 rfl ?_
            refine sx_getS (k := 61) (t := 261) cl_12 fl_X12_124 dX12_pick_83 s_224 (by decide) rfl (by decide) ?_
            refine sx_bipush dX12_pick_86 ⟨by decide, by decide, by decide⟩ ?_
            refine sx_dup2 dX12_pick_88 ?_
            refine sx_iaload dX12_pick_89 s_261 (by decide) (by decide) ⟨by omega, by omega⟩ ?_
            refine sx_iconst dX12_pick_90 ⟨by decide, by decide⟩ ?_
            refine sx_iload dX12_pick_91 rfl ?_
            refine sx_ishl dX12_pick_93 ?_
            refine sx_ixor dX12_pick_94 ?_
            refine sy_iastore dX12_pick_95 s_261 (by decide) (by decide) ⟨by omega, by omega⟩ (fun h27 eh27 => ?_)
            have Ih27 := Ih25.up eh27 (by exact omc_all_lt (Or.inl rfl) (by decide) (by decide)) rfl
            have th27_224_71 := eh27.2 (224) 71 (fun q => absurd q.1 (by decide))
            have th27_224_73 := eh27.2 (224) 73 (fun q => absurd q.1 (by decide))
            have th27_224_74 := eh27.2 (224) 74 (fun q => absurd q.1 (by decide))
            have th27_224_85 := eh27.2 (224) 85 (fun q => absurd q.1 (by decide))
            have th27_224_100 := eh27.2 (224) 100 (fun q => absurd q.1 (by decide))
            refine sx_iload dX12_pick_96 rfl ?_
            refine sx_iload_n dX12_pick_98 rfl ?_
            refine sx_icmp_lt (tgt := 105) dX12_pick_99 (by decide) (fun c28 => ?_) (fun c28 => ?_)
            ·
              refine sx_iload dX12_pick_105 rfl ?_
              refine sx_istore_n dX12_pick_107 (by decide) ?_
              refine sx_iload dX12_pick_108 rfl ?_
              refine sx_istore_n dX12_pick_110 (by decide) ?_
              refine sx_iinc dX12_pick_111 (by decide) rfl ?_
              rw [sw_w_id (by omega) (by omega)]
              refine sx_goto (tgt := 34) dX12_pick_114 (by decide) ?_
              refine sx_kill 5 ?_
              exact ihh11 _ _ _ _ ⟨Ih27, by omega⟩ (by exact sy_dec (by omega) (by omega))
            ·
              refine sx_goto (tgt := 111) dX12_pick_102 (by decide) ?_
              refine sx_iinc dX12_pick_111 (by decide) rfl ?_
              rw [sw_w_id (by omega) (by omega)]
              refine sx_goto (tgt := 34) dX12_pick_114 (by decide) ?_
              refine sx_kill 5 ?_
              exact ihh11 _ _ _ _ ⟨Ih27, by omega⟩ (by exact sy_dec (by omega) (by omega))
          ·
            have vx20 : x20 = 1 := by rcases zx20 with q | q; (exact absurd q c21); exact q
            clear zx20
            refine sx_goto (tgt := 111) dX12_pick_52 (by decide) ?_
            refine sx_iinc dX12_pick_111 (by decide) rfl ?_
            rw [sw_w_id (by omega) (by omega)]
            refine sx_goto (tgt := 34) dX12_pick_114 (by decide) ?_
            exact ihh11 _ _ _ _ ⟨Ih11, by omega⟩ (by exact sy_dec (by omega) (by omega))
      · exact ⟨Ih9, by omega⟩
    ·
      refine sx_iconst dX12_pick_15 ⟨by decide, by decide⟩ ?_
      refine sx_ireturn dX12_pick_16 ?_
      exact ⟨_, rfl, ⟨hI, mB_mK hI rfl rfl hJ hB, hI.2 224 100 rfl⟩⟩
set_option maxRecDepth 20000 in
set_option maxHeartbeats 4000000 in
theorem c_X12_law {G : sw_G} (d : Nat) {h0 : sw_H} (hJ : mI h0) (y1 : Int) (hB : mB h0)  : sw_E G NH SH (d + 5) mX12_law 0 [some (sw_r 224), some (sw_i y1), none] [] h0 (sw_Qi (fun z h' => mK (prW [59, 60, 85] [251, 275, 276, 277]) h0 h' ∧ (mB h') ∧ (h' 224 100 = h0 224 100))) := by
  have hI : mK (prW [59, 60, 85] [251, 275, 276, 277]) h0 h0 := mK.refl hJ
  refine sx_iload_n dX12_law_0 rfl ?_
  refine sx_iconst dX12_law_1 ⟨by decide, by decide⟩ ?_
  refine sx_bipush dX12_law_2 ⟨by decide, by decide, by decide⟩ ?_
  refine sx_callSz lk_X12_500 dX12_law_4 (vs := [_, _, _]) rfl rfl (Nat.le_of_ble_eq_true rfl) (Nat.le_of_ble_eq_true rfl) rfl (c_X12_isIn _ hI.1 _ _ _) (fun x2 h1 zx2 ph1 => ?_)
  obtain ⟨rfl, p_x2⟩ := ph1
  refine sx_if_eq (tgt := 17) dX12_law_7 (by decide) (fun c3 => ?_) (fun c3 => ?_)
  ·
    replace p_x2 := mt p_x2.mpr (show ¬ (x2 = 1) by rw [c3]; decide)
    clear zx2
    refine sx_iconst dX12_law_17 ⟨by decide, by decide⟩ ?_
    refine sx_ireturn dX12_law_18 ?_
    exact ⟨_, rfl, ⟨hI, ⟨mC_mK hI rfl rfl hJ hB.1, by have := hB.2; omega, by have := hB.2; omega, by have := hB.2; omega⟩, hI.2 224 100 rfl⟩⟩
  ·
    have vx2 : x2 = 1 := by rcases zx2 with q | q; (exact absurd q c3); exact q
    replace p_x2 := p_x2.mp vx2
    clear zx2
    refine sx_aload_n dX12_law_10 rfl ?_
    refine sx_callVi lk_X12_497 cl_12 s_224 (by decide) dX12_law_11 (vs := []) rfl rfl (Nat.le_of_ble_eq_true rfl) (Nat.le_of_ble_eq_true rfl) rfl (c_X12_lots _ hI.1) (fun x5 h4 ph4 => ?_)
    obtain ⟨rfl, p_x5⟩ := ph4
    refine sx_if_ne (tgt := 19) dX12_law_14 (by decide) (fun c6 => ?_) (fun c6 => ?_)
    ·
      refine sx_aload_n dX12_law_19 rfl ?_
      refine sx_iload_n dX12_law_20 rfl ?_
      refine sy_putI (k := 85) cl_12 fl_X12_169 dX12_law_21 s_224 (by decide) rfl (by decide) rfl rfl (fun h7 eh7 => ?_)
      have Ih7 := hI.up eh7 trivial rfl
      have th7_224_71 := eh7.2 (224) 71 (by decide)
      have th7_224_73 := eh7.2 (224) 73 (by decide)
      have th7_224_74 := eh7.2 (224) 74 (by decide)
      have th7_224_85 := eh7.1
      have th7_224_100 := eh7.2 (224) 100 (by decide)
      refine sx_aload_n dX12_law_24 rfl ?_
      refine sx_aload_n dX12_law_25 rfl ?_
      refine sx_callVi lk_X12_497 cl_12 s_224 (by decide) dX12_law_26 (vs := []) rfl rfl (Nat.le_of_ble_eq_true rfl) (Nat.le_of_ble_eq_true rfl) rfl (c_X12_lots _ Ih7.1) (fun x9 h8 ph8 => ?_)
      obtain ⟨rfl, p_x9⟩ := ph8
      rw [Ih7.2 224 36 rfl, Ih7.2 227 _ rfl] at p_x9
      refine sx_iconst dX12_law_29 ⟨by decide, by decide⟩ ?_
      refine sx_isub dX12_law_30 ?_
      refine sy_topw (by omega) ?_
      refine sx_iconst dX12_law_31 ⟨by decide, by decide⟩ ?_
      refine sx_callVi lk_X12_670 cl_12 s_224 (by decide) dX12_law_32 (vs := [_, _]) rfl rfl (Nat.le_of_ble_eq_true rfl) (Nat.le_of_ble_eq_true rfl) rfl (c_X12_timeBy _ Ih7.1 _ _ (mC_mK Ih7 rfl rfl hJ hB.1) (by rw [Ih7.2 224 36 rfl, Ih7.2 227 _ rfl]; omega)) (fun x11 h10 ph10 => ?_)
      have Kh10 := ph10
      have Ih10 := Ih7.tr Kh10 (prW_sub rfl rfl)
      have th10_224_71 := Kh10.2 224 71 rfl
      have th10_224_73 := Kh10.2 224 73 rfl
      have th10_224_74 := Kh10.2 224 74 rfl
      have th10_224_85 := Kh10.2 224 85 rfl
      have th10_224_100 := Kh10.2 224 100 rfl
      refine sx_istore_n dX12_law_35 (by decide) ?_
      refine sx_aload_n dX12_law_36 rfl ?_
      refine sx_iconst dX12_law_37 ⟨by decide, by decide⟩ ?_
      refine sy_putI (k := 85) cl_12 fl_X12_169 dX12_law_38 s_224 (by decide) rfl (by decide) rfl rfl (fun h12 eh12 => ?_)
      have Ih12 := Ih10.up eh12 trivial rfl
      have th12_224_71 := eh12.2 (224) 71 (by decide)
      have th12_224_73 := eh12.2 (224) 73 (by decide)
      have th12_224_74 := eh12.2 (224) 74 (by decide)
      have th12_224_85 := eh12.1
      have th12_224_100 := eh12.2 (224) 100 (by decide)
      refine sx_iload_n dX12_law_41 rfl ?_
      refine sx_ireturn dX12_law_42 ?_
      exact ⟨_, rfl, ⟨Ih12, ⟨mC_mK Ih12 rfl rfl hJ hB.1, by have := hB.2; omega, by have := hB.2; omega, by have := hB.2; omega⟩, Ih12.2 224 100 rfl⟩⟩
    ·
      refine sx_iconst dX12_law_17 ⟨by decide, by decide⟩ ?_
      refine sx_ireturn dX12_law_18 ?_
      exact ⟨_, rfl, ⟨hI, ⟨mC_mK hI rfl rfl hJ hB.1, by have := hB.2; omega, by have := hB.2; omega, by have := hB.2; omega⟩, hI.2 224 100 rfl⟩⟩

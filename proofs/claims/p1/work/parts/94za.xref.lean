-- ===== the reference's shortest, exactly =====
set_option maxRecDepth 20000 in
set_option maxHeartbeats 4000000 in
theorem x_X12_spreadTo {G : sw_G} (d : Nat) {h0 : sw_H} (hJ : mI h0) (s : Int) (y1 : Int) (hp : SP h0 s 364 0) (hw : WG h0) (hs : s = 0 ∨ s = 1 ∨ s = 12 ∨ s = 123)  : sw_E G NH SH (d + 1) mX12_spreadTo 0 [some (sw_r 224), some (sw_i y1), none, none, none] [] h0 (sw_Qz (fun z h' => mK (prW [] [271]) h0 h' ∧ (imp (z = 1) (∃ to, RW h' s to ∧ 0 ≤ to ∧ to < h' 224 79 ∧ h' 270 to.toNat = y1)) ∧ (imp (z = 0) (∀ p : List Nat, pvd s.toNat p → p.length ≤ 15 → ((pth s.toNat p : Nat) : Int) ≠ y1)))) := by
  have hI : mK (prW [] [271]) h0 h0 := mK.refl hJ
  have p2 := hp.2.1
  have p1 := hp.1
  refine sx_aload_n dX12_spreadTo_0 rfl ?_
  refine sx_iload_n dX12_spreadTo_1 rfl ?_
  refine sx_callVi lk_X12_619 cl_12 s_224 (by decide) dX12_spreadTo_2 (vs := [_]) rfl rfl (Nat.le_of_ble_eq_true rfl) (Nat.le_of_ble_eq_true rfl) rfl (c_X12_indexOf _ hI.1 _) (fun x2 h1 ph1 => ?_)
  obtain ⟨rfl, p_x2, a_x2, b_x2⟩ := ph1
  refine sx_istore_n dX12_spreadTo_5 (by decide) ?_
  refine sx_iconst dX12_spreadTo_6 ⟨by decide, by decide⟩ ?_
  refine sx_istore_n dX12_spreadTo_7 (by decide) ?_
  refine sx_loop1 (fun (h : sw_H) (k : Int) => (mK (prW [] [271]) h0 h) ∧ (0 ≤ k) ∧ (∀ j : Nat, (j : Int) < k → h 271 j = if (j : Int) = x2 then 0 else 100000000)) (fun (h : sw_H) (k : Int) => (400 - k).toNat) (fun (h : sw_H) (k : Int) => sw_E G NH SH (d + 1) mX12_spreadTo 8 [some (sw_r 224), some (sw_i y1), some (sw_i x2), some (sw_i k), none] [] h (sw_Qz (fun z h' => mK (prW [] [271]) h0 h' ∧ (imp (z = 1) (∃ to, RW h' s to ∧ 0 ≤ to ∧ to < h' 224 79 ∧ h' 270 to.toNat = y1)) ∧ (imp (z = 0) (∀ p : List Nat, pvd s.toNat p → p.length ≤ 15 → ((pth s.toNat p : Nat) : Int) ≠ y1))))) ?_ _ _ ?_
  · rintro h3 k_4 ⟨Ih3, jk, jz⟩ ihh3
    try dsimp only at ihh3
    have e79 : h3 224 79 = h0 224 79 := Ih3.2 224 79 rfl
    refine sx_iload_n dX12_spreadTo_8 rfl ?_
    refine sx_aload_n dX12_spreadTo_9 rfl ?_
    refine sx_getI (k := 79) cl_12 fl_X12_613 dX12_spreadTo_10 s_224 (by decide) rfl (by decide) ?_
    have r5 : (0 : Int) ≤ h3 224 79 ∧ h3 224 79 ≤ 364 := Ih3.1 224 79
    refine sx_icmp_ge (tgt := 40) dX12_spreadTo_13 (by decide) (fun c6 => ?_) (fun c6 => ?_)
    ·
      refine sx_iload_n dX12_spreadTo_40 rfl ?_
      refine sx_if_lt (tgt := 48) dX12_spreadTo_41 (by decide) (fun c7 => ?_) (fun c7 => ?_)
      ·
        refine sx_iconst dX12_spreadTo_48 ⟨by decide, by decide⟩ ?_
        refine sx_istore_n dX12_spreadTo_49 (by decide) ?_
        refine sx_loop1 (fun (h : sw_H) (less : Int) => (mK (prW [] [271]) h0 h) ∧ (LV h x2) ∧ (less = 0 ∨ less = 1) ∧ (imp (less = 0) (x2 < 0 ∨ ∀ k : Nat, (k : Int) < h0 224 79 → FXk h k))) (fun (h : sw_H) (less : Int) => (less + 2 * sumL (h 271) (h0 224 79).toNat).toNat) (fun (h : sw_H) (less : Int) => sw_E G NH SH (d + 1) mX12_spreadTo 50 [some (sw_r 224), some (sw_i y1), some (sw_i x2), some (sw_i less), none] [] h (sw_Qz (fun z h' => mK (prW [] [271]) h0 h' ∧ (imp (z = 1) (∃ to, RW h' s to ∧ 0 ≤ to ∧ to < h' 224 79 ∧ h' 270 to.toNat = y1)) ∧ (imp (z = 0) (∀ p : List Nat, pvd s.toNat p → p.length ≤ 15 → ((pth s.toNat p : Nat) : Int) ≠ y1))))) ?_ _ _ ?_
        · rintro h8 less_9 ⟨Ih8, jL, jl, jf⟩ ihh8
          try dsimp only at ihh8
          have jP : SP h8 s 364 0 := SP_eq (fun k => Ih8.2 270 k rfl) (Ih8.2 224 79 rfl) (fun k => Ih8.2 272 k rfl) hp
          have jW : WG h8 := WG_eq (fun k => Ih8.2 273 k rfl) hw
          have e79 : h8 224 79 = h0 224 79 := Ih8.2 224 79 rfl
          have sn := sumL_nn (f := h8 271) (h0 224 79).toNat (fun k hk => (jL.1 k (by omega)).1)
          refine sx_iload_n dX12_spreadTo_50 rfl ?_
          refine sx_if_eq (tgt := 87) dX12_spreadTo_51 (by decide) (fun c10 => ?_) (fun c10 => ?_)
          ·
            refine sx_iload_n dX12_spreadTo_87 rfl ?_
            refine sx_if_lt (tgt := 107) dX12_spreadTo_88 (by decide) (fun c11 => ?_) (fun c11 => ?_)
            ·
              refine sx_iconst dX12_spreadTo_107 ⟨by decide, by decide⟩ ?_
              refine sx_ireturn dX12_spreadTo_108 ?_
              exact ⟨_, rfl, by omega, ⟨Ih8, fun q => absurd q (by decide), fun _ => by first | exact U_none hp hs (b_x2 (by omega)) | exact U_far jP jW jL (fun k hk => (jf (by omega)).resolve_left (by omega) k (by omega)) hs (by omega) ((Ih8.2 270 _ rfl).trans (a_x2 (by omega))) (by first | assumption | omega)⟩⟩
            ·
              refine sx_aload_n dX12_spreadTo_91 rfl ?_
              refine sx_getS (k := 78) (t := 271) cl_12 fl_X12_157 dX12_spreadTo_92 s_224 (by decide) rfl (by decide) ?_
              refine sx_iconst dX12_spreadTo_95 ⟨by decide, by decide⟩ ?_
              refine sx_iaload dX12_spreadTo_96 s_271 (by decide) (by decide) ⟨by omega, by omega⟩ ?_
              refine sx_ldcw kc_X12_622 ⟨by decide, by decide⟩ dX12_spreadTo_97 ?_
              refine sx_icmp_ge (tgt := 107) dX12_spreadTo_100 (by decide) (fun c12 => ?_) (fun c12 => ?_)
              ·
                refine sx_iconst dX12_spreadTo_107 ⟨by decide, by decide⟩ ?_
                refine sx_ireturn dX12_spreadTo_108 ?_
                exact ⟨_, rfl, by omega, ⟨Ih8, fun q => absurd q (by decide), fun _ => by first | exact U_none hp hs (b_x2 (by omega)) | exact U_far jP jW jL (fun k hk => (jf (by omega)).resolve_left (by omega) k (by omega)) hs (by omega) ((Ih8.2 270 _ rfl).trans (a_x2 (by omega))) (by first | assumption | omega)⟩⟩
              ·
                refine sx_iconst dX12_spreadTo_103 ⟨by decide, by decide⟩ ?_
                refine sx_goto (tgt := 108) dX12_spreadTo_104 (by decide) ?_
                refine sx_ireturn dX12_spreadTo_108 ?_
                exact ⟨_, rfl, by omega, ⟨Ih8, (fun _ => ⟨x2, ⟨jP, jW, jL, fun k hk => (jf (by omega)).resolve_left (by omega) k (by omega), hs, by first | omega | assumption⟩, by omega, by omega, (Ih8.2 270 _ rfl).trans (a_x2 (by omega))⟩), fun q => absurd q (by decide)⟩⟩
          ·
            refine sx_iconst dX12_spreadTo_54 ⟨by decide, by decide⟩ ?_
            refine sx_istore_n dX12_spreadTo_55 (by decide) ?_
            refine sx_aload_n dX12_spreadTo_56 rfl ?_
            refine sx_getI (k := 79) cl_12 fl_X12_613 dX12_spreadTo_57 s_224 (by decide) rfl (by decide) ?_
            have r13 : (0 : Int) ≤ h8 224 79 ∧ h8 224 79 ≤ 364 := Ih8.1 224 79
            refine sx_iconst dX12_spreadTo_60 ⟨by decide, by decide⟩ ?_
            refine sx_isub dX12_spreadTo_61 ?_
            refine sy_topw (by omega) ?_
            refine sy_top (fun v14 ev14 => ?_)
            refine sx_istore dX12_spreadTo_62 (by decide) ?_
            refine sx_loop2 (fun (h : sw_H) (less : Int) (k : Int) => (mK (prW [] [271]) h0 h) ∧ (LV h x2) ∧ (less = 0 ∨ less = 1) ∧ (-1 ≤ k) ∧ (k < h0 224 79) ∧ (less = 1 → sumL (h 271) (h0 224 79).toNat < sumL (h8 271) (h0 224 79).toNat) ∧ (imp (less = 0) ((∀ j, h 271 j = h8 271 j) ∧ ∀ j : Nat, k < (j : Int) → (j : Int) < h0 224 79 → FXk h j))) (fun (h : sw_H) (less : Int) (k : Int) => (k + 1).toNat) (fun (h : sw_H) (less : Int) (k : Int) => sw_E G NH SH (d + 1) mX12_spreadTo 64 [some (sw_r 224), some (sw_i y1), some (sw_i x2), some (sw_i less), some (sw_i k)] [] h (sw_Qz (fun z h' => mK (prW [] [271]) h0 h' ∧ (imp (z = 1) (∃ to, RW h' s to ∧ 0 ≤ to ∧ to < h' 224 79 ∧ h' 270 to.toNat = y1)) ∧ (imp (z = 0) (∀ p : List Nat, pvd s.toNat p → p.length ≤ 15 → ((pth s.toNat p : Nat) : Int) ≠ y1))))) ?_ _ _ _ ?_
            · rintro h15 less_16 k_17 ⟨Ih15, jL, jl2, jk1, jk2, jA, jB⟩ ihh15
              try dsimp only at ihh15
              have jP : SP h15 s 364 0 := SP_eq (fun k => Ih15.2 270 k rfl) (Ih15.2 224 79 rfl) (fun k => Ih15.2 272 k rfl) hp
              have jW : WG h15 := WG_eq (fun k => Ih15.2 273 k rfl) hw
              have e79 : h15 224 79 = h0 224 79 := Ih15.2 224 79 rfl
              refine sx_iload dX12_spreadTo_64 rfl ?_
              refine sx_if_lt (tgt := 84) dX12_spreadTo_66 (by decide) (fun c18 => ?_) (fun c18 => ?_)
              ·
                refine sx_goto (tgt := 50) dX12_spreadTo_84 (by decide) ?_
                refine sx_kill 4 ?_
                exact ihh8 _ _ ⟨Ih15, jL, by omega, fun q => Or.inr (fun k hk => (jB q).2 k (by omega) hk)⟩ (by rcases jl2 with q | q; (have q2 := (jB q).1; rw [sumL_eq (f := h15 271) (g := h8 271) _ (fun k _ => q2 k)]; omega); (have q2 := jA q; omega))
              ·
                refine sx_iload_n dX12_spreadTo_69 rfl ?_
                refine sx_aload_n dX12_spreadTo_70 rfl ?_
                refine sx_iload dX12_spreadTo_71 rfl ?_
                refine sx_callVz lk_X12_623 cl_12 s_224 (by decide) dX12_spreadTo_73 (vs := [_]) rfl rfl (Nat.le_of_ble_eq_true rfl) (Nat.le_of_ble_eq_true rfl) rfl (c_X12_isLessBy _ Ih15.1 s _ _ (jP) (jW) (jL) (by omega)) (fun x20 h19 zx20 ph19 => ?_)
                obtain ⟨Kh19, l_h19, a_h19, b_h19⟩ := ph19
                have Ih19 := Ih15.tr Kh19 (prW_sub rfl rfl)
                have jl3 := l_h19
                have zz := zx20
                obtain ⟨zq, ezq⟩ : ∃ q : Int, q = x20 := ⟨_, rfl⟩
                refine sx_ior dX12_spreadTo_76 ?_
                refine sy_top (fun v21 ev21 => ?_)
                refine sx_istore_n dX12_spreadTo_77 (by decide) ?_
                have io := ior01 (x := less_16) (by omega) zz
                rw [← ev21] at io
                have jl2 : v21 = 0 ∨ v21 = 1 := by omega
                have jA2 : v21 = 1 → sumL (h19 271) (h0 224 79).toNat < sumL (h8 271) (h0 224 79).toNat := fun q => by have q1 := a_h19; rcases io with q2 | q2; (exfalso; omega); by_cases q3 : zq = 1; (have q4 := q1 (by omega); by_cases q5 : less_16 = 1; (have q6 := jA q5; rw [e79] at q4; omega); (have q6 := (jB (by omega)).1; rw [e79, sumL_eq (f := h15 271) (g := h8 271) _ (fun k _ => q6 k)] at q4; exact q4)); (have q4 := (b_h19 (by omega)).1; have q6 := jA (by omega); rw [sumL_eq (f := h19 271) (g := h15 271) _ (fun k _ => q4 k)]; exact q6)
                have jB2 : imp (v21 = 0) ((∀ j, h19 271 j = h8 271 j) ∧ ∀ j : Nat, k_17 - 1 < (j : Int) → (j : Int) < h0 224 79 → FXk h19 j) := fun q => by obtain ⟨b1, b2⟩ := b_h19 (by omega); obtain ⟨c1, c2⟩ := jB (by omega); exact ⟨fun j => (b1 j).trans (c1 j), fun j q1 q2 => by by_cases q3 : (j : Int) = k_17; (rw [show j = (k_17).toNat by omega]; exact b2); exact FXk_eq b1 (fun k => Kh19.2 272 k rfl) (fun k => Kh19.2 273 k rfl) (c2 j (by omega) q2)⟩
                refine sx_iinc dX12_spreadTo_78 (by decide) rfl ?_
                rw [sw_w_id (by omega) (by omega)]
                refine sx_goto (tgt := 64) dX12_spreadTo_81 (by decide) ?_
                exact ihh15 _ _ _ ⟨Ih19, by exact jl3, by exact jl2, by omega, by omega, by exact jA2, by exact jB2⟩ (by exact sy_dec (by omega) (by omega))
            · exact ⟨Ih8, by exact jL, by omega, by omega, by omega, by omega, by exact fun _ => ⟨fun _ => rfl, fun j q1 q2 => by omega⟩⟩
        · exact ⟨Ih3, by exact LV_0 (fun j hj => jz j (by omega)), by omega, by exact fun q => by first | (exfalso; omega) | (left; omega)⟩
      ·
        refine sx_iconst dX12_spreadTo_44 ⟨by decide, by decide⟩ ?_
        refine sx_goto (tgt := 49) dX12_spreadTo_45 (by decide) ?_
        refine sx_istore_n dX12_spreadTo_49 (by decide) ?_
        refine sx_loop1 (fun (h : sw_H) (less : Int) => (mK (prW [] [271]) h0 h) ∧ (LV h x2) ∧ (less = 0 ∨ less = 1) ∧ (imp (less = 0) (x2 < 0 ∨ ∀ k : Nat, (k : Int) < h0 224 79 → FXk h k))) (fun (h : sw_H) (less : Int) => (less + 2 * sumL (h 271) (h0 224 79).toNat).toNat) (fun (h : sw_H) (less : Int) => sw_E G NH SH (d + 1) mX12_spreadTo 50 [some (sw_r 224), some (sw_i y1), some (sw_i x2), some (sw_i less), none] [] h (sw_Qz (fun z h' => mK (prW [] [271]) h0 h' ∧ (imp (z = 1) (∃ to, RW h' s to ∧ 0 ≤ to ∧ to < h' 224 79 ∧ h' 270 to.toNat = y1)) ∧ (imp (z = 0) (∀ p : List Nat, pvd s.toNat p → p.length ≤ 15 → ((pth s.toNat p : Nat) : Int) ≠ y1))))) ?_ _ _ ?_
        · rintro h22 less_23 ⟨Ih22, jL, jl, jf⟩ ihh22
          try dsimp only at ihh22
          have jP : SP h22 s 364 0 := SP_eq (fun k => Ih22.2 270 k rfl) (Ih22.2 224 79 rfl) (fun k => Ih22.2 272 k rfl) hp
          have jW : WG h22 := WG_eq (fun k => Ih22.2 273 k rfl) hw
          have e79 : h22 224 79 = h0 224 79 := Ih22.2 224 79 rfl
          have sn := sumL_nn (f := h22 271) (h0 224 79).toNat (fun k hk => (jL.1 k (by omega)).1)
          refine sx_iload_n dX12_spreadTo_50 rfl ?_
          refine sx_if_eq (tgt := 87) dX12_spreadTo_51 (by decide) (fun c24 => ?_) (fun c24 => ?_)
          ·
            refine sx_iload_n dX12_spreadTo_87 rfl ?_
            refine sx_if_lt (tgt := 107) dX12_spreadTo_88 (by decide) (fun c25 => ?_) (fun c25 => ?_)
            ·
              refine sx_iconst dX12_spreadTo_107 ⟨by decide, by decide⟩ ?_
              refine sx_ireturn dX12_spreadTo_108 ?_
              exact ⟨_, rfl, by omega, ⟨Ih22, fun q => absurd q (by decide), fun _ => by first | exact U_none hp hs (b_x2 (by omega)) | exact U_far jP jW jL (fun k hk => (jf (by omega)).resolve_left (by omega) k (by omega)) hs (by omega) ((Ih22.2 270 _ rfl).trans (a_x2 (by omega))) (by first | assumption | omega)⟩⟩
            ·
              refine sx_aload_n dX12_spreadTo_91 rfl ?_
              refine sx_getS (k := 78) (t := 271) cl_12 fl_X12_157 dX12_spreadTo_92 s_224 (by decide) rfl (by decide) ?_
              refine sx_iconst dX12_spreadTo_95 ⟨by decide, by decide⟩ ?_
              refine sx_iaload dX12_spreadTo_96 s_271 (by decide) (by decide) ⟨by omega, by omega⟩ ?_
              refine sx_ldcw kc_X12_622 ⟨by decide, by decide⟩ dX12_spreadTo_97 ?_
              refine sx_icmp_ge (tgt := 107) dX12_spreadTo_100 (by decide) (fun c26 => ?_) (fun c26 => ?_)
              ·
                refine sx_iconst dX12_spreadTo_107 ⟨by decide, by decide⟩ ?_
                refine sx_ireturn dX12_spreadTo_108 ?_
                exact ⟨_, rfl, by omega, ⟨Ih22, fun q => absurd q (by decide), fun _ => by first | exact U_none hp hs (b_x2 (by omega)) | exact U_far jP jW jL (fun k hk => (jf (by omega)).resolve_left (by omega) k (by omega)) hs (by omega) ((Ih22.2 270 _ rfl).trans (a_x2 (by omega))) (by first | assumption | omega)⟩⟩
              ·
                refine sx_iconst dX12_spreadTo_103 ⟨by decide, by decide⟩ ?_
                refine sx_goto (tgt := 108) dX12_spreadTo_104 (by decide) ?_
                refine sx_ireturn dX12_spreadTo_108 ?_
                exact ⟨_, rfl, by omega, ⟨Ih22, (fun _ => ⟨x2, ⟨jP, jW, jL, fun k hk => (jf (by omega)).resolve_left (by omega) k (by omega), hs, by first | omega | assumption⟩, by omega, by omega, (Ih22.2 270 _ rfl).trans (a_x2 (by omega))⟩), fun q => absurd q (by decide)⟩⟩
          ·
            refine sx_iconst dX12_spreadTo_54 ⟨by decide, by decide⟩ ?_
            refine sx_istore_n dX12_spreadTo_55 (by decide) ?_
            refine sx_aload_n dX12_spreadTo_56 rfl ?_
            refine sx_getI (k := 79) cl_12 fl_X12_613 dX12_spreadTo_57 s_224 (by decide) rfl (by decide) ?_
            have r27 : (0 : Int) ≤ h22 224 79 ∧ h22 224 79 ≤ 364 := Ih22.1 224 79
            refine sx_iconst dX12_spreadTo_60 ⟨by decide, by decide⟩ ?_
            refine sx_isub dX12_spreadTo_61 ?_
            refine sy_topw (by omega) ?_
            refine sy_top (fun v28 ev28 => ?_)
            refine sx_istore dX12_spreadTo_62 (by decide) ?_
            refine sx_loop2 (fun (h : sw_H) (less : Int) (k : Int) => (mK (prW [] [271]) h0 h) ∧ (LV h x2) ∧ (less = 0 ∨ less = 1) ∧ (-1 ≤ k) ∧ (k < h0 224 79) ∧ (less = 1 → sumL (h 271) (h0 224 79).toNat < sumL (h22 271) (h0 224 79).toNat) ∧ (imp (less = 0) ((∀ j, h 271 j = h22 271 j) ∧ ∀ j : Nat, k < (j : Int) → (j : Int) < h0 224 79 → FXk h j))) (fun (h : sw_H) (less : Int) (k : Int) => (k + 1).toNat) (fun (h : sw_H) (less : Int) (k : Int) => sw_E G NH SH (d + 1) mX12_spreadTo 64 [some (sw_r 224), some (sw_i y1), some (sw_i x2), some (sw_i less), some (sw_i k)] [] h (sw_Qz (fun z h' => mK (prW [] [271]) h0 h' ∧ (imp (z = 1) (∃ to, RW h' s to ∧ 0 ≤ to ∧ to < h' 224 79 ∧ h' 270 to.toNat = y1)) ∧ (imp (z = 0) (∀ p : List Nat, pvd s.toNat p → p.length ≤ 15 → ((pth s.toNat p : Nat) : Int) ≠ y1))))) ?_ _ _ _ ?_
            · rintro h29 less_30 k_31 ⟨Ih29, jL, jl2, jk1, jk2, jA, jB⟩ ihh29
              try dsimp only at ihh29
              have jP : SP h29 s 364 0 := SP_eq (fun k => Ih29.2 270 k rfl) (Ih29.2 224 79 rfl) (fun k => Ih29.2 272 k rfl) hp
              have jW : WG h29 := WG_eq (fun k => Ih29.2 273 k rfl) hw
              have e79 : h29 224 79 = h0 224 79 := Ih29.2 224 79 rfl
              refine sx_iload dX12_spreadTo_64 rfl ?_
              refine sx_if_lt (tgt := 84) dX12_spreadTo_66 (by decide) (fun c32 => ?_) (fun c32 => ?_)
              ·
                refine sx_goto (tgt := 50) dX12_spreadTo_84 (by decide) ?_
                refine sx_kill 4 ?_
                exact ihh22 _ _ ⟨Ih29, jL, by omega, fun q => Or.inr (fun k hk => (jB q).2 k (by omega) hk)⟩ (by rcases jl2 with q | q; (have q2 := (jB q).1; rw [sumL_eq (f := h29 271) (g := h22 271) _ (fun k _ => q2 k)]; omega); (have q2 := jA q; omega))
              ·
                refine sx_iload_n dX12_spreadTo_69 rfl ?_
                refine sx_aload_n dX12_spreadTo_70 rfl ?_
                refine sx_iload dX12_spreadTo_71 rfl ?_
                refine sx_callVz lk_X12_623 cl_12 s_224 (by decide) dX12_spreadTo_73 (vs := [_]) rfl rfl (Nat.le_of_ble_eq_true rfl) (Nat.le_of_ble_eq_true rfl) rfl (c_X12_isLessBy _ Ih29.1 s _ _ (jP) (jW) (jL) (by omega)) (fun x34 h33 zx34 ph33 => ?_)
                obtain ⟨Kh33, l_h33, a_h33, b_h33⟩ := ph33
                have Ih33 := Ih29.tr Kh33 (prW_sub rfl rfl)
                have jl3 := l_h33
                have zz := zx34
                obtain ⟨zq, ezq⟩ : ∃ q : Int, q = x34 := ⟨_, rfl⟩
                refine sx_ior dX12_spreadTo_76 ?_
                refine sy_top (fun v35 ev35 => ?_)
                refine sx_istore_n dX12_spreadTo_77 (by decide) ?_
                have io := ior01 (x := less_30) (by omega) zz
                rw [← ev35] at io
                have jl2 : v35 = 0 ∨ v35 = 1 := by omega
                have jA2 : v35 = 1 → sumL (h33 271) (h0 224 79).toNat < sumL (h22 271) (h0 224 79).toNat := fun q => by have q1 := a_h33; rcases io with q2 | q2; (exfalso; omega); by_cases q3 : zq = 1; (have q4 := q1 (by omega); by_cases q5 : less_30 = 1; (have q6 := jA q5; rw [e79] at q4; omega); (have q6 := (jB (by omega)).1; rw [e79, sumL_eq (f := h29 271) (g := h22 271) _ (fun k _ => q6 k)] at q4; exact q4)); (have q4 := (b_h33 (by omega)).1; have q6 := jA (by omega); rw [sumL_eq (f := h33 271) (g := h29 271) _ (fun k _ => q4 k)]; exact q6)
                have jB2 : imp (v35 = 0) ((∀ j, h33 271 j = h22 271 j) ∧ ∀ j : Nat, k_31 - 1 < (j : Int) → (j : Int) < h0 224 79 → FXk h33 j) := fun q => by obtain ⟨b1, b2⟩ := b_h33 (by omega); obtain ⟨c1, c2⟩ := jB (by omega); exact ⟨fun j => (b1 j).trans (c1 j), fun j q1 q2 => by by_cases q3 : (j : Int) = k_31; (rw [show j = (k_31).toNat by omega]; exact b2); exact FXk_eq b1 (fun k => Kh33.2 272 k rfl) (fun k => Kh33.2 273 k rfl) (c2 j (by omega) q2)⟩
                refine sx_iinc dX12_spreadTo_78 (by decide) rfl ?_
                rw [sw_w_id (by omega) (by omega)]
                refine sx_goto (tgt := 64) dX12_spreadTo_81 (by decide) ?_
                exact ihh29 _ _ _ ⟨Ih33, by exact jl3, by exact jl2, by omega, by omega, by exact jA2, by exact jB2⟩ (by exact sy_dec (by omega) (by omega))
            · exact ⟨Ih22, by exact jL, by omega, by omega, by omega, by omega, by exact fun _ => ⟨fun _ => rfl, fun j q1 q2 => by omega⟩⟩
        · exact ⟨Ih3, by exact LV_0 (fun j hj => jz j (by omega)), by omega, by exact fun q => by first | (exfalso; omega) | (left; omega)⟩
    ·
      refine sx_aload_n dX12_spreadTo_16 rfl ?_
      refine sx_getS (k := 78) (t := 271) cl_12 fl_X12_157 dX12_spreadTo_17 s_224 (by decide) rfl (by decide) ?_
      refine sx_iload_n dX12_spreadTo_20 rfl ?_
      refine sx_iload_n dX12_spreadTo_21 rfl ?_
      refine sx_iload_n dX12_spreadTo_22 rfl ?_
      refine sx_icmp_ne (tgt := 30) dX12_spreadTo_23 (by decide) (fun c36 => ?_) (fun c36 => ?_)
      ·
        refine sx_ldcw kc_X12_622 ⟨by decide, by decide⟩ dX12_spreadTo_30 ?_
        refine sy_iastore dX12_spreadTo_33 s_271 (by decide) (by decide) ⟨by omega, by omega⟩ (fun h37 eh37 => ?_)
        have Ih37 := Ih3.up eh37 trivial rfl
        have jz2 : ∀ j : Nat, (j : Int) < k_4 + 1 → h37 271 j = if (j : Int) = x2 then 0 else 100000000 := fun j hj => by rw [eh37.at 271 j]; simp only [true_and]; by_cases q : j = (k_4).toNat; (focus (rw [if_pos q]; first | (rw [if_pos (show (j : Int) = x2 by omega)]; done) | (rw [if_neg (show ¬ (j : Int) = x2 by omega)]; done))); (rw [if_neg q]; exact jz j (by omega))
        refine sx_iinc dX12_spreadTo_34 (by decide) rfl ?_
        rw [sw_w_id (by omega) (by omega)]
        refine sx_goto (tgt := 8) dX12_spreadTo_37 (by decide) ?_
        exact ihh3 _ _ ⟨Ih37, by omega, by exact jz2⟩ (by exact sy_dec (by omega) (by omega))
      ·
        refine sx_iconst dX12_spreadTo_26 ⟨by decide, by decide⟩ ?_
        refine sx_goto (tgt := 33) dX12_spreadTo_27 (by decide) ?_
        refine sy_iastore dX12_spreadTo_33 s_271 (by decide) (by decide) ⟨by omega, by omega⟩ (fun h38 eh38 => ?_)
        have Ih38 := Ih3.up eh38 trivial rfl
        have jz2 : ∀ j : Nat, (j : Int) < k_4 + 1 → h38 271 j = if (j : Int) = x2 then 0 else 100000000 := fun j hj => by rw [eh38.at 271 j]; simp only [true_and]; by_cases q : j = (k_4).toNat; (focus (rw [if_pos q]; first | (rw [if_pos (show (j : Int) = x2 by omega)]; done) | (rw [if_neg (show ¬ (j : Int) = x2 by omega)]; done))); (rw [if_neg q]; exact jz j (by omega))
        refine sx_iinc dX12_spreadTo_34 (by decide) rfl ?_
        rw [sw_w_id (by omega) (by omega)]
        refine sx_goto (tgt := 8) dX12_spreadTo_37 (by decide) ?_
        exact ihh3 _ _ ⟨Ih38, by omega, by exact jz2⟩ (by exact sy_dec (by omega) (by omega))
  · exact ⟨hI, by omega, by (intro j hj; omega)⟩

set_option maxRecDepth 20000 in
set_option maxHeartbeats 4000000 in
theorem x_X12_layRow {G : sw_G} (d : Nat) {h0 : sw_H} (hJ : mI h0) (s : Int) (to : Int) (hR : RW h0 s to) (h83 : h0 224 83 = 0)  : sw_E G NH SH (d) mX12_layRow 0 [some (sw_r 224), none, none] [] h0 (sw_Qv (fun h' => mK (prW [83] [274]) h0 h' ∧ (∃ p : List Nat, pvd s.toNat p ∧ h0 270 to.toNat = ((pth s.toNat p : Nat) : Int) ∧ ((wt (fun t => (h0 273 t).toNat) p : Nat) : Int) = h0 271 0 ∧ h' 224 83 = ((p.length : Nat) : Int)))) := by
  have hI : mK (prW [83] [274]) h0 h0 := mK.refl hJ
  have p2 := hR.1.2.1
  have p1 := hR.1.1
  refine sx_iconst dX12_layRow_0 ⟨by decide, by decide⟩ ?_
  refine sx_istore_n dX12_layRow_1 (by decide) ?_
  refine sx_loop1 (fun (h : sw_H) (k : Int) => (mK (prW [83] [274]) h0 h) ∧ (0 ≤ k ∧ k < h0 224 79) ∧ (∃ p : List Nat, pvd s.toNat p ∧ h0 270 k.toNat = ((pth s.toNat p : Nat) : Int) ∧ ((wt (fun t => (h0 273 t).toNat) p : Nat) : Int) + h0 271 k.toNat = h0 271 0 ∧ h 224 83 = (p.length : Nat))) (fun (h : sw_H) (k : Int) => (h0 271 k.toNat).toNat) (fun (h : sw_H) (k : Int) => sw_E G NH SH (d) mX12_layRow 2 [some (sw_r 224), some (sw_i k), none] [] h (sw_Qv (fun h' => mK (prW [83] [274]) h0 h' ∧ (∃ p : List Nat, pvd s.toNat p ∧ h0 270 to.toNat = ((pth s.toNat p : Nat) : Int) ∧ ((wt (fun t => (h0 273 t).toNat) p : Nat) : Int) = h0 271 0 ∧ h' 224 83 = ((p.length : Nat) : Int))))) ?_ _ _ ?_
  · rintro h1 k_2 ⟨Ih1, jk, jx⟩ ihh1
    try dsimp only at ihh1
    obtain ⟨p, pp1, pp2, pp3, pp4⟩ := jx
    have sh15 := RW_short hR pp1 (k := (k_2).toNat) (by omega) pp2 pp3
    have lk := LV_rng hR.2.2.1 (k := k_2) (by omega)
    have l0 := hR.2.2.2.2.2
    have e71k : h1 271 (k_2).toNat = h0 271 (k_2).toNat := Ih1.2 271 _ rfl
    refine sx_aload_n dX12_layRow_2 rfl ?_
    refine sx_getS (k := 78) (t := 271) cl_12 fl_X12_157 dX12_layRow_3 s_224 (by decide) rfl (by decide) ?_
    refine sx_iload_n dX12_layRow_6 rfl ?_
    refine sx_iaload dX12_layRow_7 s_271 (by decide) (by decide) ⟨by omega, by omega⟩ ?_
    refine sx_if_le (tgt := 100) dX12_layRow_8 (by decide) (fun c3 => ?_) (fun c3 => ?_)
    ·
      refine sx_ret dX12_layRow_100 ?_
      exact ⟨rfl, ⟨Ih1, LY_end hR jk (by rw [← e71k]; exact c3) pp1 pp2 pp3 pp4⟩⟩
    ·
      obtain ⟨t0, tw1, tw2, tw3, tw4⟩ := RW_next hR (k := k_2) (by omega) (by omega) (by omega)
      refine sx_iconst dX12_layRow_11 ⟨by decide, by decide⟩ ?_
      refine sx_istore_n dX12_layRow_12 (by decide) ?_
      refine sx_loop1 (fun (h : sw_H) (t : Int) => (h1 = h) ∧ (0 ≤ t) ∧ (t ≤ t0)) (fun (h : sw_H) (t : Int) => (10 - t).toNat) (fun (h : sw_H) (t : Int) => sw_E G NH SH (d) mX12_layRow 13 [some (sw_r 224), some (sw_i k_2), some (sw_i t)] [] h (sw_Qv (fun h' => mK (prW [83] [274]) h0 h' ∧ (∃ p : List Nat, pvd s.toNat p ∧ h0 270 to.toNat = ((pth s.toNat p : Nat) : Int) ∧ ((wt (fun t => (h0 273 t).toNat) p : Nat) : Int) = h0 271 0 ∧ h' 224 83 = ((p.length : Nat) : Int))))) ?_ _ _ ?_
      · rintro h4 t_5 ⟨rfl, jt, jt0⟩ ihh4
        try dsimp only at ihh4
        have e72 : h1 272 (7 * k_2 + t_5).toNat = h0 272 (7 * k_2 + t_5).toNat := Ih1.2 272 _ rfl
        have e73 : h1 273 (t_5).toNat = h0 273 (t_5).toNat := Ih1.2 273 _ rfl
        have e71a : h1 271 (h1 272 (7 * k_2 + t_5).toNat).toNat = h0 271 (h0 272 (7 * k_2 + t_5).toNat).toNat := by rw [e72]; exact Ih1.2 271 _ rfl
        have rg := SP_rng hR.1 (k := k_2) (t := t_5) (by omega) (by omega)
        have wg := WG_of hR.2.1 (t := t_5) (by omega)
        refine sx_aload_n dX12_layRow_13 rfl ?_
        refine sx_getS (k := 80) (t := 272) cl_12 fl_X12_160 dX12_layRow_14 s_224 (by decide) rfl (by decide) ?_
        refine sx_bipush dX12_layRow_17 ⟨by decide, by decide, by decide⟩ ?_
        refine sx_iload_n dX12_layRow_19 rfl ?_
        refine sx_imul dX12_layRow_20 ?_
        refine sy_topw (by omega) ?_
        refine sx_iload_n dX12_layRow_21 rfl ?_
        refine sx_iadd dX12_layRow_22 ?_
        refine sy_topw (by omega) ?_
        refine sx_iaload dX12_layRow_23 s_272 (by decide) (by decide) ⟨by omega, by omega⟩ ?_
        refine sx_if_lt (tgt := 59) dX12_layRow_24 (by decide) (fun c6 => ?_) (fun c6 => ?_)
        ·
          have tne : t_5 ≠ t0 := fun q => by have q3 := tw3; have q4 := tw4; rw [← q] at q3 q4; omega
          refine sx_iinc dX12_layRow_59 (by decide) rfl ?_
          rw [sw_w_id (by omega) (by omega)]
          refine sx_goto (tgt := 13) dX12_layRow_62 (by decide) ?_
          exact ihh4 _ _ ⟨rfl, by omega, by omega⟩ (by exact sy_dec (by omega) (by omega))
        ·
          have la := LV_rng hR.2.2.1 (k := h0 272 (7 * k_2 + t_5).toNat) (by omega)
          refine sx_aload_n dX12_layRow_27 rfl ?_
          refine sx_getS (k := 78) (t := 271) cl_12 fl_X12_157 dX12_layRow_28 s_224 (by decide) rfl (by decide) ?_
          refine sx_aload_n dX12_layRow_31 rfl ?_
          refine sx_getS (k := 80) (t := 272) cl_12 fl_X12_160 dX12_layRow_32 s_224 (by decide) rfl (by decide) ?_
          refine sx_bipush dX12_layRow_35 ⟨by decide, by decide, by decide⟩ ?_
          refine sx_iload_n dX12_layRow_37 rfl ?_
          refine sx_imul dX12_layRow_38 ?_
          refine sy_topw (by omega) ?_
          refine sx_iload_n dX12_layRow_39 rfl ?_
          refine sx_iadd dX12_layRow_40 ?_
          refine sy_topw (by omega) ?_
          refine sx_iaload dX12_layRow_41 s_272 (by decide) (by decide) ⟨by omega, by omega⟩ ?_
          refine sx_iaload dX12_layRow_42 s_271 (by decide) (by decide) ⟨by omega, by omega⟩ ?_
          refine sx_aload_n dX12_layRow_43 rfl ?_
          refine sx_getS (k := 81) (t := 273) cl_12 fl_X12_163 dX12_layRow_44 s_224 (by decide) rfl (by decide) ?_
          refine sx_iload_n dX12_layRow_47 rfl ?_
          refine sx_iaload dX12_layRow_48 s_273 (by decide) (by decide) ⟨by omega, by omega⟩ ?_
          refine sx_iadd dX12_layRow_49 ?_
          refine sy_topw (by omega) ?_
          refine sx_aload_n dX12_layRow_50 rfl ?_
          refine sx_getS (k := 78) (t := 271) cl_12 fl_X12_157 dX12_layRow_51 s_224 (by decide) rfl (by decide) ?_
          refine sx_iload_n dX12_layRow_54 rfl ?_
          refine sx_iaload dX12_layRow_55 s_271 (by decide) (by decide) ⟨by omega, by omega⟩ ?_
          refine sx_icmp_eq (tgt := 65) dX12_layRow_56 (by decide) (fun c7 => ?_) (fun c7 => ?_)
          ·
            obtain ⟨mp1, mp2, mp3, mp4⟩ := RW_more hR pp1 (k := k_2) (t := t_5) (by omega) pp2 pp3 (by omega) (by omega) (by omega)
            refine sx_aload_n dX12_layRow_65 rfl ?_
            refine sx_getS (k := 82) (t := 274) cl_12 fl_X12_166 dX12_layRow_66 s_224 (by decide) rfl (by decide) ?_
            refine sx_aload_n dX12_layRow_69 rfl ?_
            refine sx_getI (k := 83) cl_12 fl_X12_516 dX12_layRow_70 s_224 (by decide) rfl (by decide) ?_
            have r8 : (0 : Int) ≤ h1 224 83 ∧ h1 224 83 ≤ 64 := Ih1.1 224 83
            refine sx_iload_n dX12_layRow_73 rfl ?_
            refine sy_iastore dX12_layRow_74 s_274 (by decide) (by decide) ⟨by omega, by omega⟩ (fun h9 eh9 => ?_)
            have Ih9 := Ih1.up eh9 trivial rfl
            have th9_224_83 := eh9.2 (224) 83 (by omega)
            refine sx_aload_n dX12_layRow_75 rfl ?_
            refine sx_dupr dX12_layRow_76 ?_
            refine sx_getI (k := 83) cl_12 fl_X12_516 dX12_layRow_77 s_224 (by decide) rfl (by decide) ?_
            have r10 : (0 : Int) ≤ h9 224 83 ∧ h9 224 83 ≤ 64 := Ih9.1 224 83
            refine sx_iconst dX12_layRow_80 ⟨by decide, by decide⟩ ?_
            refine sx_iadd dX12_layRow_81 ?_
            refine sy_topw (by omega) ?_
            refine sy_putI (k := 83) cl_12 fl_X12_516 dX12_layRow_82 s_224 (by decide) rfl (by decide) rfl rfl (fun h11 eh11 => ?_)
            have Ih11 := Ih9.up eh11 (show (0 : Int) ≤ _ ∧ _ ≤ (64 : Int) from ⟨by omega, by omega⟩) rfl
            have th11_224_83 := eh11.1
            refine sx_aload_n dX12_layRow_85 rfl ?_
            refine sx_getS (k := 80) (t := 272) cl_12 fl_X12_160 dX12_layRow_86 s_224 (by decide) rfl (by decide) ?_
            refine sx_bipush dX12_layRow_89 ⟨by decide, by decide, by decide⟩ ?_
            refine sx_iload_n dX12_layRow_91 rfl ?_
            refine sx_imul dX12_layRow_92 ?_
            refine sy_topw (by omega) ?_
            refine sx_iload_n dX12_layRow_93 rfl ?_
            refine sx_iadd dX12_layRow_94 ?_
            refine sy_topw (by omega) ?_
            refine sx_iaload dX12_layRow_95 s_272 (by decide) (by decide) ⟨by omega, by omega⟩ ?_
            refine sy_top (fun v12 ev12 => ?_)
            refine sx_istore_n dX12_layRow_96 (by decide) ?_
            have ev : v12 = h0 272 (7 * k_2 + t_5).toNat := by rw [ev12]; exact Ih11.2 272 _ rfl
            have jx2 : ∃ p : List Nat, pvd s.toNat p ∧ h0 270 (v12).toNat = ((pth s.toNat p : Nat) : Int) ∧ ((wt (fun t => (h0 273 t).toNat) p : Nat) : Int) + h0 271 (v12).toNat = h0 271 0 ∧ h11 224 83 = (p.length : Nat) := by rw [ev]; exact ⟨_, mp1, mp3, mp4, by rw [List.length_cons]; omega⟩
            have wl : h0 271 (v12).toNat < h0 271 (k_2).toNat := by rw [ev]; omega
            refine sx_goto (tgt := 2) dX12_layRow_97 (by decide) ?_
            refine sx_kill 2 ?_
            exact ihh1 _ _ ⟨Ih11, by omega, by exact jx2⟩ (by exact sy_dec (by omega) (by omega))
          ·
            have tne : t_5 ≠ t0 := fun q => by have q3 := tw3; have q4 := tw4; rw [← q] at q3 q4; omega
            refine sx_iinc dX12_layRow_59 (by decide) rfl ?_
            rw [sw_w_id (by omega) (by omega)]
            refine sx_goto (tgt := 13) dX12_layRow_62 (by decide) ?_
            exact ihh4 _ _ ⟨rfl, by omega, by omega⟩ (by exact sy_dec (by omega) (by omega))
      · exact ⟨rfl, by omega, by omega⟩
  · exact ⟨hI, by omega, by exact ⟨[], trivial, by have q := hR.1.2.2.1; have q2 := hR.2.2.2.2.1; show h0 270 0 = ((s.toNat : Nat) : Int); omega, by simp only [wt]; show ((0 : Nat) : Int) + h0 271 0 = h0 271 0; omega, h83⟩⟩
set_option maxRecDepth 20000 in
set_option maxHeartbeats 4000000 in
theorem x_X12_isTask {G : sw_G} (d : Nat) {h0 : sw_H} (hJ : mI h0) (y1 y2 : Int)  : sw_E G NH SH (d + 1) mX12_isTask 0 [some (sw_i y1), some (sw_i y2), none] [] h0 (sw_Qz (fun z h' => h0 = h' ∧ (z = 1 ↔ TK y1 y2))) := by
  have hI : mK (prW [] []) h0 h0 := mK.refl hJ
  refine sx_iload_n dX12_isTask_0 rfl ?_
  refine sx_iconst dX12_isTask_1 ⟨by decide, by decide⟩ ?_
  refine sx_iconst dX12_isTask_2 ⟨by decide, by decide⟩ ?_
  refine sx_callSz lk_X12_500 dX12_isTask_3 (vs := [_, _, _]) rfl rfl (Nat.le_of_ble_eq_true rfl) (Nat.le_of_ble_eq_true rfl) rfl (c_X12_isIn _ hI.1 _ _ _) (fun x2 h1 zx2 ph1 => ?_)
  obtain ⟨rfl, p_x2⟩ := ph1
  refine sx_if_eq (tgt := 20) dX12_isTask_6 (by decide) (fun c3 => ?_) (fun c3 => ?_)
  ·
    replace p_x2 := mt p_x2.mpr (show ¬ (x2 = 1) by rw [c3]; decide)
    clear zx2
    refine sx_iconst dX12_isTask_20 ⟨by decide, by decide⟩ ?_
    refine sx_ireturn dX12_isTask_21 ?_
    exact ⟨_, rfl, by omega, ⟨rfl, ⟨fun q => absurd q (by decide), fun T => by first | exact absurd T.1 p_x2 | exact absurd T.2.1 p_x5⟩⟩⟩
  ·
    have vx2 : x2 = 1 := by rcases zx2 with q | q; (exact absurd q c3); exact q
    replace p_x2 := p_x2.mp vx2
    clear zx2
    refine sx_iload_n dX12_isTask_9 rfl ?_
    refine sx_iconst dX12_isTask_10 ⟨by decide, by decide⟩ ?_
    refine sx_sipush dX12_isTask_11 ⟨by decide, by decide, by decide⟩ ?_
    refine sx_callSz lk_X12_500 dX12_isTask_14 (vs := [_, _, _]) rfl rfl (Nat.le_of_ble_eq_true rfl) (Nat.le_of_ble_eq_true rfl) rfl (c_X12_isIn _ hI.1 _ _ _) (fun x5 h4 zx5 ph4 => ?_)
    obtain ⟨rfl, p_x5⟩ := ph4
    refine sx_if_ne (tgt := 22) dX12_isTask_17 (by decide) (fun c6 => ?_) (fun c6 => ?_)
    ·
      have vx5 : x5 = 1 := by rcases zx5 with q | q; (exact absurd q c6); exact q
      replace p_x5 := p_x5.mp vx5
      clear zx5
      refine sx_iload_n dX12_isTask_22 rfl ?_
      refine sx_istore_n dX12_isTask_23 (by decide) ?_
      refine sx_loop1 (fun (h : sw_H) (k : Int) => (h0 = h) ∧ (0 ≤ k) ∧ (k ≤ 9999) ∧ (IK y1 y2 k)) (fun (h : sw_H) (k : Int) => k.toNat) (fun (h : sw_H) (k : Int) => sw_E G NH SH (d + 1) mX12_isTask 24 [some (sw_i y1), some (sw_i y2), some (sw_i k)] [] h (sw_Qz (fun z h' => h0 = h' ∧ (z = 1 ↔ TK y1 y2)))) ?_ _ _ ?_
      · rintro h7 k_8 ⟨rfl, jk, jk9, jI⟩ ihh7
        try dsimp only at ihh7
        refine sx_iload_n dX12_isTask_24 rfl ?_
        refine sx_if_le (tgt := 50) dX12_isTask_25 (by decide) (fun c9 => ?_) (fun c9 => ?_)
        ·
          refine sx_iconst dX12_isTask_50 ⟨by decide, by decide⟩ ?_
          refine sx_ireturn dX12_isTask_51 ?_
          exact ⟨_, rfl, by omega, ⟨rfl, ⟨fun _ => ⟨p_x2, p_x5, IK_end jI (by omega) (by omega)⟩, fun _ => rfl⟩⟩⟩
        ·
          have e10 : sw_w (Int.tmod k_8 10) = k_8 % 10 := by rw [Int.tmod_eq_emod_of_nonneg (by omega)]; exact sw_w_id (by omega) (by omega)
          refine sx_iload_n dX12_isTask_28 rfl ?_
          refine sx_bipush dX12_isTask_29 ⟨by decide, by decide, by decide⟩ ?_
          refine sx_irem dX12_isTask_31 (by decide) ?_
          refine sx_iconst dX12_isTask_32 ⟨by decide, by decide⟩ ?_
          refine sx_iload_n dX12_isTask_33 rfl ?_
          refine sx_callSz lk_X12_500 dX12_isTask_34 (vs := [_, _, _]) rfl rfl (Nat.le_of_ble_eq_true rfl) (Nat.le_of_ble_eq_true rfl) rfl (c_X12_isIn _ hI.1 _ _ _) (fun x11 h10 zx11 ph10 => ?_)
          obtain ⟨rfl, p_x11⟩ := ph10
          rw [e10] at p_x11
          refine sx_if_ne (tgt := 42) dX12_isTask_37 (by decide) (fun c12 => ?_) (fun c12 => ?_)
          ·
            have vx11 : x11 = 1 := by rcases zx11 with q | q; (exact absurd q c12); exact q
            replace p_x11 := p_x11.mp vx11
            clear zx11
            refine sx_iload_n dX12_isTask_42 rfl ?_
            refine sx_bipush dX12_isTask_43 ⟨by decide, by decide, by decide⟩ ?_
            refine sx_idiv dX12_isTask_45 (by decide) ?_
            refine sy_topw (by (rw [Int.tdiv_eq_ediv_of_nonneg (by omega)]; omega)) ?_
            refine sy_top (fun v13 ev13 => ?_)
            refine sx_istore_n dX12_isTask_46 (by decide) ?_
            rw [Int.tdiv_eq_ediv_of_nonneg (by omega)] at ev13
            subst ev13
            refine sx_goto (tgt := 24) dX12_isTask_47 (by decide) ?_
            exact ihh7 _ _ ⟨rfl, by omega, by omega, by exact IK_step p_x5 jI (by omega) p_x11⟩ (by exact sy_dec (by omega) (by omega))
          ·
            replace p_x11 := mt p_x11.mpr (show ¬ (x11 = 1) by rw [c12]; decide)
            clear zx11
            refine sx_iconst dX12_isTask_40 ⟨by decide, by decide⟩ ?_
            refine sx_ireturn dX12_isTask_41 ?_
            exact ⟨_, rfl, by omega, ⟨rfl, ⟨fun q => absurd q (by decide), fun T => absurd T.2.2 (IK_bad p_x5 jI (by omega) p_x11)⟩⟩⟩
      · exact ⟨rfl, by omega, by omega, by exact Or.inl rfl⟩
    ·
      replace p_x5 := mt p_x5.mpr (show ¬ (x5 = 1) by rw [c6]; decide)
      clear zx5
      refine sx_iconst dX12_isTask_20 ⟨by decide, by decide⟩ ?_
      refine sx_ireturn dX12_isTask_21 ?_
      exact ⟨_, rfl, by omega, ⟨rfl, ⟨fun q => absurd q (by decide), fun T => by first | exact absurd T.1 p_x2 | exact absurd T.2.1 p_x5⟩⟩⟩
set_option maxRecDepth 20000 in
set_option maxHeartbeats 4000000 in
theorem x_X12_canTask {G : sw_G} (d : Nat) {h0 : sw_H} (hJ : mI h0) (y1 y2 : Int) (hw : WG h0)  : sw_E G NH SH (d + 4) mX12_canTask 0 [some (sw_r 224), some (sw_i y1), some (sw_i y2)] [] h0 (sw_Qz (fun z h' => mK (prW [67, 79, 83] [262, 270, 271, 272]) h0 h' ∧ (h' 224 83 = 0) ∧ (imp (z = 1) (TK y1 y2 ∧ ∃ to, RW h' (st0 y1) to ∧ 0 ≤ to ∧ to < h' 224 79 ∧ h' 270 to.toNat = y2)) ∧ (imp (z = 0) (¬ TK y1 y2 ∨ ∀ p : List Nat, pvd (st0 y1).toNat p → p.length ≤ 15 → ((pth (st0 y1).toNat p : Nat) : Int) ≠ y2)))) := by
  have hI : mK (prW [67, 79, 83] [262, 270, 271, 272]) h0 h0 := mK.refl hJ
  refine sx_aload_n dX12_canTask_0 rfl ?_
  refine sx_iconst dX12_canTask_1 ⟨by decide, by decide⟩ ?_
  refine sy_putI (k := 83) cl_12 fl_X12_516 dX12_canTask_2 s_224 (by decide) rfl (by decide) rfl rfl (fun h1 eh1 => ?_)
  have Ih1 := hI.up eh1 (show (0 : Int) ≤ _ ∧ _ ≤ (64 : Int) from ⟨by omega, by omega⟩) rfl
  have th1_224_83 := eh1.1
  refine sx_iload_n dX12_canTask_5 rfl ?_
  refine sx_iload_n dX12_canTask_6 rfl ?_
  refine sx_callSz lk_X12_626 dX12_canTask_7 (vs := [_, _]) rfl rfl (Nat.le_of_ble_eq_true rfl) (Nat.le_of_ble_eq_true rfl) rfl (x_X12_isTask _ Ih1.1 _ _) (fun x3 h2 zx3 ph2 => ?_)
  obtain ⟨rfl, p_x3⟩ := ph2
  have pT := p_x3
  refine sx_if_ne (tgt := 15) dX12_canTask_10 (by decide) (fun c4 => ?_) (fun c4 => ?_)
  ·
    have vx3 : x3 = 1 := by rcases zx3 with q | q; (exact absurd q c4); exact q
    replace p_x3 := p_x3.mp vx3
    clear zx3
    refine sx_aload_n dX12_canTask_15 rfl ?_
    refine sx_iload_n dX12_canTask_16 rfl ?_
    refine sx_callSi lk_X12_629 dX12_canTask_17 (vs := [_]) rfl rfl (Nat.le_of_ble_eq_true rfl) (Nat.le_of_ble_eq_true rfl) rfl (c_X12_startOf _ Ih1.1 _) (fun x6 h5 ph5 => ?_)
    obtain ⟨rfl, p_x6⟩ := ph5
    have vs := V_start p_x6
    have es : x6 = st0 y1 := p_x6
    subst es
    refine sx_callVv lk_X12_632 cl_12 s_224 (by decide) dX12_canTask_20 (vs := [_]) rfl rfl (Nat.le_of_ble_eq_true rfl) (Nat.le_of_ble_eq_true rfl) rfl (c_X12_spreadFrom _ Ih1.1 _ (vs.1)) (fun h7 ph7 => ?_)
    obtain ⟨Kh7, p_h7⟩ := ph7
    have Ih7 := Ih1.tr Kh7 (prW_sub rfl rfl)
    have th7_224_83 := Kh7.2 224 83 rfl
    have WG1 : WG h7 := WG_eq (fun k => by rw [Kh7.2 273 k rfl]; exact Ih1.2 273 k rfl) hw
    refine sx_aload_n dX12_canTask_23 rfl ?_
    refine sx_iload_n dX12_canTask_24 rfl ?_
    refine sx_callVz lk_X12_635 cl_12 s_224 (by decide) dX12_canTask_25 (vs := [_]) rfl rfl (Nat.le_of_ble_eq_true rfl) (Nat.le_of_ble_eq_true rfl) rfl (x_X12_spreadTo _ Ih7.1 _ _ (p_h7) (WG1) (vs.2)) (fun x10 h9 zx10 ph9 => ?_)
    obtain ⟨Kh9, r_h9, u_h9⟩ := ph9
    have Ih9 := Ih7.tr Kh9 (prW_sub rfl rfl)
    have th9_224_83 := Kh9.2 224 83 rfl
    refine sx_ireturn dX12_canTask_28 ?_
    exact ⟨_, rfl, by omega, ⟨Ih9, by omega, fun q => ⟨pT.mp (by omega), r_h9 q⟩, fun q => Or.inr (u_h9 q)⟩⟩
  ·
    replace p_x3 := mt p_x3.mpr (show ¬ (x3 = 1) by rw [c4]; decide)
    clear zx3
    refine sx_iconst dX12_canTask_13 ⟨by decide, by decide⟩ ?_
    refine sx_ireturn dX12_canTask_14 ?_
    exact ⟨_, rfl, by omega, ⟨Ih1, by omega, fun q => absurd q (by decide), fun _ => Or.inl (fun T => by have q := pT.mpr T; omega)⟩⟩
set_option maxRecDepth 20000 in
set_option maxHeartbeats 4000000 in
theorem x_X12_shortest {G : sw_G} (d : Nat) {h0 : sw_H} (hJ : mI h0) (y1 y2 : Int) (hB : mB h0)  : sw_E G NH SH (d + 5) mX12_shortest 0 [some (sw_r 224), some (sw_i y1), some (sw_i y2), none] [] h0 (sw_Qi (fun z h' => mK (prW [67, 79, 83] [262, 270, 271, 272, 273, 274]) h0 h' ∧ (mB h') ∧ (h' 224 100 = h0 224 100) ∧ (z = XT y1 y2))) := by
  have hI : mK (prW [67, 79, 83] [262, 270, 271, 272, 273, 274]) h0 h0 := mK.refl hJ
  refine sx_iconst dX12_shortest_0 ⟨by decide, by decide⟩ ?_
  refine sx_istore_n dX12_shortest_1 (by decide) ?_
  refine sx_loop1 (fun (h : sw_H) (t : Int) => (mK (prW [67, 79, 83] [262, 270, 271, 272, 273, 274]) h0 h) ∧ (0 ≤ t) ∧ (∀ j : Nat, (j : Int) < t → h 273 j = 1)) (fun (h : sw_H) (t : Int) => (10 - t).toNat) (fun (h : sw_H) (t : Int) => sw_E G NH SH (d + 5) mX12_shortest 2 [some (sw_r 224), some (sw_i y1), some (sw_i y2), some (sw_i t)] [] h (sw_Qi (fun z h' => mK (prW [67, 79, 83] [262, 270, 271, 272, 273, 274]) h0 h' ∧ (mB h') ∧ (h' 224 100 = h0 224 100) ∧ (z = XT y1 y2)))) ?_ _ _ ?_
  · rintro h1 t_2 ⟨Ih1, jt, jw⟩ ihh1
    try dsimp only at ihh1
    refine sx_iload_n dX12_shortest_2 rfl ?_
    refine sx_bipush dX12_shortest_3 ⟨by decide, by decide, by decide⟩ ?_
    refine sx_icmp_ge (tgt := 21) dX12_shortest_5 (by decide) (fun c3 => ?_) (fun c3 => ?_)
    ·
      have hw1 : ∀ t : Nat, t < 7 → h1 273 t = 1 := fun t ht => jw t (by omega)
      have hw : WG h1 := fun t ht => by rw [hw1 t ht]; omega
      refine sx_aload_n dX12_shortest_21 rfl ?_
      refine sx_iload_n dX12_shortest_22 rfl ?_
      refine sx_iload_n dX12_shortest_23 rfl ?_
      refine sx_callVz lk_X12_638 cl_12 s_224 (by decide) dX12_shortest_24 (vs := [_, _]) rfl rfl (Nat.le_of_ble_eq_true rfl) (Nat.le_of_ble_eq_true rfl) rfl (x_X12_canTask _ Ih1.1 _ _ (hw)) (fun x5 h4 zx5 ph4 => ?_)
      obtain ⟨Kh4, l_h4, r_h4, u_h4⟩ := ph4
      have Ih4 := Ih1.tr Kh4 (prW_sub rfl rfl)
      refine sx_if_ne (tgt := 32) dX12_shortest_27 (by decide) (fun c6 => ?_) (fun c6 => ?_)
      ·
        have vx5 : x5 = 1 := by rcases zx5 with q | q; (exact absurd q c6); exact q
        clear zx5
        obtain ⟨hT, to, hR, ht0, ht1, er⟩ := r_h4 (by omega)
        have hw2 : ∀ t : Nat, t < 7 → h4 273 t = 1 := fun t ht => by rw [Kh4.2 273 t rfl]; exact hw1 t ht
        refine sx_aload_n dX12_shortest_32 rfl ?_
        refine sx_callVv lk_X12_641 cl_12 s_224 (by decide) dX12_shortest_33 (vs := []) rfl rfl (Nat.le_of_ble_eq_true rfl) (Nat.le_of_ble_eq_true rfl) rfl (x_X12_layRow _ Ih4.1 _ _ (hR) (by omega)) (fun h7 ph7 => ?_)
        obtain ⟨Kh7, x_h7⟩ := ph7
        have Ih7 := Ih4.tr Kh7 (prW_sub rfl rfl)
        refine sx_aload_n dX12_shortest_36 rfl ?_
        refine sx_getI (k := 83) cl_12 fl_X12_516 dX12_shortest_37 s_224 (by decide) rfl (by decide) ?_
        have r9 : (0 : Int) ≤ h7 224 83 ∧ h7 224 83 ≤ 64 := Ih7.1 224 83
        refine sx_ireturn dX12_shortest_40 ?_
        exact ⟨_, rfl, ⟨Ih7, mB_mK Ih7 rfl rfl hJ hB, Ih7.2 224 100 rfl, (XT_ref hT hR hw2 ⟨ht0, ht1⟩ er x_h7)⟩⟩
      ·
        clear zx5
        refine sx_iconst dX12_shortest_30 ⟨by decide, by decide⟩ ?_
        refine sx_ireturn dX12_shortest_31 ?_
        exact ⟨_, rfl, ⟨Ih4, mB_mK Ih4 rfl rfl hJ hB, Ih4.2 224 100 rfl, XT_none (u_h4 (by omega))⟩⟩
    ·
      refine sx_aload_n dX12_shortest_8 rfl ?_
      refine sx_getS (k := 81) (t := 273) cl_12 fl_X12_163 dX12_shortest_9 s_224 (by decide) rfl (by decide) ?_
      refine sx_iload_n dX12_shortest_12 rfl ?_
      refine sx_iconst dX12_shortest_13 ⟨by decide, by decide⟩ ?_
      refine sy_iastore dX12_shortest_14 s_273 (by decide) (by decide) ⟨by omega, by omega⟩ (fun h10 eh10 => ?_)
      have Ih10 := Ih1.up eh10 trivial rfl
      have th10_224_83 := eh10.2 (224) 83 (fun q => absurd q.1 (by decide))
      have jw2 : ∀ j : Nat, (j : Int) < t_2 + 1 → h10 273 j = 1 := fun j hj => by rw [eh10.at 273 j]; simp only [true_and]; by_cases q : j = (t_2).toNat; (rw [if_pos q]); (rw [if_neg q]; exact jw j (by omega))
      refine sx_iinc dX12_shortest_15 (by decide) rfl ?_
      rw [sw_w_id (by omega) (by omega)]
      refine sx_goto (tgt := 2) dX12_shortest_18 (by decide) ?_
      exact ihh1 _ _ ⟨Ih10, by omega, by exact jw2⟩ (by exact sy_dec (by omega) (by omega))
  · exact ⟨hI, by omega, by (intro j hj; omega)⟩

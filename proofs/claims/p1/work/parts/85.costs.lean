set_option maxRecDepth 20000 in
set_option maxHeartbeats 4000000 in
theorem c_J7_fill_53178_178 {G : sw_G} (d : Nat) {h0 : sw_H} (hJ : cJ h0) (v : Int) : sw_E G NH SH (d) mJ7_fill_53178 0 [some (sw_r 178), some (sw_i v), none, none] [] h0 (sw_Qv (fun h' => cK prK h0 h')) := by
  have hI : cK prK h0 h0 := cK.refl hJ
  refine sx_iconst dJ7_fill_53178_0 ⟨by decide, by decide⟩ ?_
  refine sx_istore_n dJ7_fill_53178_1 (by decide) ?_
  refine sx_aload_n dJ7_fill_53178_2 rfl ?_
  refine sx_alen (t := 0) dJ7_fill_53178_3 s_178 (by decide) (by decide) (by decide) ?_
  refine sy_top (fun v1 ev1 => ?_)
  refine sx_istore_n dJ7_fill_53178_4 (by decide) ?_
  refine sx_loop1 (fun (h : sw_H) (i : Int) => (cK prK h0 h) ∧ (0 ≤ i)) (fun (h : sw_H) (i : Int) => (19 - i).toNat) (fun (h : sw_H) (i : Int) => sw_E G NH SH (d) mJ7_fill_53178 5 [some (sw_r 178), some (sw_i v), some (sw_i i), some (sw_i v1)] [] h (sw_Qv (fun h' => cK prK h0 h'))) ?_ _ _ ?_
  · rintro h2 i_3 ⟨Ih2, j4⟩ ihh2
    try dsimp only at ihh2
    refine sx_iload_n dJ7_fill_53178_5 rfl ?_
    refine sx_iload_n dJ7_fill_53178_6 rfl ?_
    refine sx_icmp_ge (tgt := 20) dJ7_fill_53178_7 (by decide) (fun c5 => ?_) (fun c5 => ?_)
    ·
      refine sx_ret dJ7_fill_53178_20 ?_
      exact ⟨rfl, Ih2⟩
    ·
      refine sx_aload_n dJ7_fill_53178_10 rfl ?_
      refine sx_iload_n dJ7_fill_53178_11 rfl ?_
      refine sx_iload_n dJ7_fill_53178_12 rfl ?_
      refine sy_iastore dJ7_fill_53178_13 s_178 (by decide) (by decide) ⟨by omega, by omega⟩ (fun h6 eh6 => ?_)
      have Ih6 := Ih2.up eh6 trivial rfl rfl
      refine sx_iinc dJ7_fill_53178_14 (by decide) rfl ?_
      rw [sw_w_id (by omega) (by omega)]
      refine sx_goto (tgt := 5) dJ7_fill_53178_17 (by decide) ?_
      exact ihh2 _ _ ⟨Ih6, by omega⟩ (by exact sy_dec (by omega) (by omega))
  · exact ⟨hI, by omega⟩
set_option maxRecDepth 20000 in
set_option maxHeartbeats 4000000 in
theorem c_J7_fill_53178_184 {G : sw_G} (d : Nat) {h0 : sw_H} (hJ : cJ h0) (v : Int) : sw_E G NH SH (d) mJ7_fill_53178 0 [some (sw_r 184), some (sw_i v), none, none] [] h0 (sw_Qv (fun h' => cK prI h0 h')) := by
  have hI : cK prI h0 h0 := cK.refl hJ
  refine sx_iconst dJ7_fill_53178_0 ⟨by decide, by decide⟩ ?_
  refine sx_istore_n dJ7_fill_53178_1 (by decide) ?_
  refine sx_aload_n dJ7_fill_53178_2 rfl ?_
  refine sx_alen (t := 0) dJ7_fill_53178_3 s_184 (by decide) (by decide) (by decide) ?_
  refine sy_top (fun v1 ev1 => ?_)
  refine sx_istore_n dJ7_fill_53178_4 (by decide) ?_
  refine sx_loop1 (fun (h : sw_H) (i : Int) => (cK prI h0 h) ∧ (0 ≤ i)) (fun (h : sw_H) (i : Int) => (1024 - i).toNat) (fun (h : sw_H) (i : Int) => sw_E G NH SH (d) mJ7_fill_53178 5 [some (sw_r 184), some (sw_i v), some (sw_i i), some (sw_i v1)] [] h (sw_Qv (fun h' => cK prI h0 h'))) ?_ _ _ ?_
  · rintro h2 i_3 ⟨Ih2, j4⟩ ihh2
    try dsimp only at ihh2
    refine sx_iload_n dJ7_fill_53178_5 rfl ?_
    refine sx_iload_n dJ7_fill_53178_6 rfl ?_
    refine sx_icmp_ge (tgt := 20) dJ7_fill_53178_7 (by decide) (fun c5 => ?_) (fun c5 => ?_)
    ·
      refine sx_ret dJ7_fill_53178_20 ?_
      exact ⟨rfl, Ih2⟩
    ·
      refine sx_aload_n dJ7_fill_53178_10 rfl ?_
      refine sx_iload_n dJ7_fill_53178_11 rfl ?_
      refine sx_iload_n dJ7_fill_53178_12 rfl ?_
      refine sy_iastore dJ7_fill_53178_13 s_184 (by decide) (by decide) ⟨by omega, by omega⟩ (fun h6 eh6 => ?_)
      have Ih6 := Ih2.up eh6 trivial rfl rfl
      refine sx_iinc dJ7_fill_53178_14 (by decide) rfl ?_
      rw [sw_w_id (by omega) (by omega)]
      refine sx_goto (tgt := 5) dJ7_fill_53178_17 (by decide) ?_
      exact ihh2 _ _ ⟨Ih6, by omega⟩ (by exact sy_dec (by omega) (by omega))
  · exact ⟨hI, by omega⟩
set_option maxRecDepth 20000 in
set_option maxHeartbeats 4000000 in
theorem c_J7_fill_53178_186 {G : sw_G} (d : Nat) {h0 : sw_H} (hJ : cJ h0) (v : Int) : sw_E G NH SH (d) mJ7_fill_53178 0 [some (sw_r 186), some (sw_i v), none, none] [] h0 (sw_Qv (fun h' => cK prI h0 h')) := by
  have hI : cK prI h0 h0 := cK.refl hJ
  refine sx_iconst dJ7_fill_53178_0 ⟨by decide, by decide⟩ ?_
  refine sx_istore_n dJ7_fill_53178_1 (by decide) ?_
  refine sx_aload_n dJ7_fill_53178_2 rfl ?_
  refine sx_alen (t := 0) dJ7_fill_53178_3 s_186 (by decide) (by decide) (by decide) ?_
  refine sy_top (fun v1 ev1 => ?_)
  refine sx_istore_n dJ7_fill_53178_4 (by decide) ?_
  refine sx_loop1 (fun (h : sw_H) (i : Int) => (cK prI h0 h) ∧ (0 ≤ i)) (fun (h : sw_H) (i : Int) => (1024 - i).toNat) (fun (h : sw_H) (i : Int) => sw_E G NH SH (d) mJ7_fill_53178 5 [some (sw_r 186), some (sw_i v), some (sw_i i), some (sw_i v1)] [] h (sw_Qv (fun h' => cK prI h0 h'))) ?_ _ _ ?_
  · rintro h2 i_3 ⟨Ih2, j4⟩ ihh2
    try dsimp only at ihh2
    refine sx_iload_n dJ7_fill_53178_5 rfl ?_
    refine sx_iload_n dJ7_fill_53178_6 rfl ?_
    refine sx_icmp_ge (tgt := 20) dJ7_fill_53178_7 (by decide) (fun c5 => ?_) (fun c5 => ?_)
    ·
      refine sx_ret dJ7_fill_53178_20 ?_
      exact ⟨rfl, Ih2⟩
    ·
      refine sx_aload_n dJ7_fill_53178_10 rfl ?_
      refine sx_iload_n dJ7_fill_53178_11 rfl ?_
      refine sx_iload_n dJ7_fill_53178_12 rfl ?_
      refine sy_iastore dJ7_fill_53178_13 s_186 (by decide) (by decide) ⟨by omega, by omega⟩ (fun h6 eh6 => ?_)
      have Ih6 := Ih2.up eh6 trivial rfl rfl
      refine sx_iinc dJ7_fill_53178_14 (by decide) rfl ?_
      rw [sw_w_id (by omega) (by omega)]
      refine sx_goto (tgt := 5) dJ7_fill_53178_17 (by decide) ?_
      exact ihh2 _ _ ⟨Ih6, by omega⟩ (by exact sy_dec (by omega) (by omega))
  · exact ⟨hI, by omega⟩
set_option maxRecDepth 20000 in
set_option maxHeartbeats 4000000 in
theorem c_X1_priceAlike {G : sw_G} (d : Nat) {h0 : sw_H} (hJ : cJ h0) (n : Int) : sw_E G NH SH (d + 1) mX1_priceAlike 0 [some (sw_r 177), some (sw_i n)] [] h0 (sw_Qv (fun h' => cK prK h0 h')) := by
  have hI : cK prK h0 h0 := cK.refl hJ
  refine sx_aload_n dX1_priceAlike_0 rfl ?_
  refine sx_getS (k := 0) (t := 178) cl_1 fl_X1_9 dX1_priceAlike_1 s_177 (by decide) rfl (by decide) ?_
  refine sx_iload_n dX1_priceAlike_4 rfl ?_
  refine sx_callSv lk_X1_35 dX1_priceAlike_5 (vs := [_, _]) rfl rfl (Nat.le_of_ble_eq_true rfl) (Nat.le_of_ble_eq_true rfl) rfl (c_J7_fill_53178_178 _ hI.1 _) (fun h1 ph1 => ?_)
  have Kh1 := ph1
  have Ih1 := hI.tr Kh1 sb_prK_prK
  refine sx_ret dX1_priceAlike_8 ?_
  exact ⟨rfl, Ih1⟩
set_option maxRecDepth 20000 in
set_option maxHeartbeats 4000000 in
theorem c_X1_roomOfItem {G : sw_G} (d : Nat) {h0 : sw_H} (hJ : cJ h0) (s v l f : Int) (hv : s = 2 → 0 ≤ v ∧ v ≤ 5) : sw_E G NH SH (d) mX1_roomOfItem 0 [some (sw_r 177), some (sw_i s), some (sw_i v), some (sw_i l), some (sw_i f)] [] h0 (sw_Qi (fun z h' => h0 = h')) := by
  have hI : cK pr0 h0 h0 := cK.refl hJ
  refine sx_iload_n dX1_roomOfItem_0 rfl ?_
  refine sx_tsw (dt := 75) (ts := [40, 42, 54, 75, 75, 73]) dX1_roomOfItem_1 (by decide) (by decide) (by decide) (fun c1 => ?_) (And.intro (fun c1 => ?_) (And.intro (fun c1 => ?_) (And.intro (fun c1 => ?_) (And.intro (fun c1 => ?_) (And.intro (fun c1 => ?_) (And.intro (fun c1 => ?_) trivial))))))
  ·
    refine sx_iconst dX1_roomOfItem_75 ⟨by decide, by decide⟩ ?_
    refine sx_ireturn dX1_roomOfItem_76 ?_
    exact ⟨_, rfl, rfl⟩
  ·
    refine sx_iconst dX1_roomOfItem_40 ⟨by decide, by decide⟩ ?_
    refine sx_ireturn dX1_roomOfItem_41 ?_
    exact ⟨_, rfl, rfl⟩
  ·
    refine sx_iload dX1_roomOfItem_42 rfl ?_
    refine sx_iconst dX1_roomOfItem_44 ⟨by decide, by decide⟩ ?_
    refine sx_icmp_ne (tgt := 52) dX1_roomOfItem_45 (by decide) (fun c2 => ?_) (fun c2 => ?_)
    ·
      refine sx_iconst dX1_roomOfItem_52 ⟨by decide, by decide⟩ ?_
      refine sx_ireturn dX1_roomOfItem_53 ?_
      exact ⟨_, rfl, rfl⟩
    ·
      refine sx_iconst dX1_roomOfItem_48 ⟨by decide, by decide⟩ ?_
      refine sx_goto (tgt := 53) dX1_roomOfItem_49 (by decide) ?_
      refine sx_ireturn dX1_roomOfItem_53 ?_
      exact ⟨_, rfl, rfl⟩
  ·
    refine sx_iload_n dX1_roomOfItem_54 rfl ?_
    refine sx_iload_n dX1_roomOfItem_55 rfl ?_
    refine sx_ishr dX1_roomOfItem_56 ?_
    refine sx_iconst dX1_roomOfItem_57 ⟨by decide, by decide⟩ ?_
    refine sx_iand dX1_roomOfItem_58 ?_
    refine sx_if_ne (tgt := 66) dX1_roomOfItem_59 (by decide) (fun c3 => ?_) (fun c3 => ?_)
    ·
      refine sx_aload_n dX1_roomOfItem_66 rfl ?_
      refine sx_getS (k := 1) (t := 179) cl_1 fl_X1_15 dX1_roomOfItem_67 s_177 (by decide) rfl (by decide) ?_
      refine sx_iload_n dX1_roomOfItem_70 rfl ?_
      refine sx_iaload dX1_roomOfItem_71 s_179 (by decide) (by decide) ⟨by omega, by omega⟩ ?_
      refine sx_ireturn dX1_roomOfItem_72 ?_
      exact ⟨_, rfl, rfl⟩
    ·
      refine sx_iconst dX1_roomOfItem_62 ⟨by decide, by decide⟩ ?_
      refine sx_goto (tgt := 72) dX1_roomOfItem_63 (by decide) ?_
      refine sx_ireturn dX1_roomOfItem_72 ?_
      exact ⟨_, rfl, rfl⟩
  ·
    refine sx_iconst dX1_roomOfItem_75 ⟨by decide, by decide⟩ ?_
    refine sx_ireturn dX1_roomOfItem_76 ?_
    exact ⟨_, rfl, rfl⟩
  ·
    refine sx_iconst dX1_roomOfItem_75 ⟨by decide, by decide⟩ ?_
    refine sx_ireturn dX1_roomOfItem_76 ?_
    exact ⟨_, rfl, rfl⟩
  ·
    refine sx_iconst dX1_roomOfItem_73 ⟨by decide, by decide⟩ ?_
    refine sx_ireturn dX1_roomOfItem_74 ?_
    exact ⟨_, rfl, rfl⟩
set_option maxRecDepth 20000 in
set_option maxHeartbeats 4000000 in
theorem c_X1_priceByForm_1 {G : sw_G} (d : Nat) {h0 : sw_H} (hJ : cJ h0) (f : Int) (hf : 0 ≤ f ∧ f ≤ 2) : sw_E G NH SH (d + 1) mX1_priceByForm 0 [some (sw_r 177), some (sw_r 1), some (sw_i f)] [] h0 (sw_Qv (fun h' => cK prK h0 h')) := by
  have hI : cK prK h0 h0 := cK.refl hJ
  refine sx_aload_n dX1_priceByForm_0 rfl ?_
  refine sx_getS (k := 15) (t := 12) cl_0 fl_X1_24 dX1_priceByForm_1 s_1 (by decide) rfl (by decide) ?_
  refine sx_iload_n dX1_priceByForm_4 rfl ?_
  refine sx_bipush dX1_priceByForm_5 ⟨by decide, by decide, by decide⟩ ?_
  refine sx_imul dX1_priceByForm_7 ?_
  refine sy_topw (by omega) ?_
  refine sx_aload_n dX1_priceByForm_8 rfl ?_
  refine sx_getS (k := 0) (t := 178) cl_1 fl_X1_9 dX1_priceByForm_9 s_177 (by decide) rfl (by decide) ?_
  refine sx_iconst dX1_priceByForm_12 ⟨by decide, by decide⟩ ?_
  refine sx_bipush dX1_priceByForm_13 ⟨by decide, by decide, by decide⟩ ?_
  refine sx_copy lc_X1_29 lw_copy dX1_priceByForm_15 s_12 (by decide) s_178 (by decide) (by decide) (by decide) ⟨by omega, by omega, by omega⟩ ⟨by omega, by omega⟩ (Nat.le_of_ble_eq_true rfl) (by decide) (fun h1 kh1 vh1 => ?_)
  have Ih1 := hI.upA kh1 (fun _ => trivial) (fun _ => rfl) (fun _ => rfl)
  refine sx_ret dX1_priceByForm_18 ?_
  exact ⟨rfl, Ih1⟩
set_option maxRecDepth 20000 in
set_option maxHeartbeats 4000000 in
theorem c_X1_timeAlone_1 {G : sw_G} (d : Nat) {h0 : sw_H} (hJ : cJ h0) (l w : Int) (hw : 0 ≤ w ∧ w < 6) : sw_E G NH SH (d + 1) mX1_timeAlone 0 [some (sw_r 177), some (sw_r 1), some (sw_i l), some (sw_i w), none, none, none, none] [] h0 (sw_Qi (fun z h' => cK prK h0 h')) := by
  have hI : cK prK h0 h0 := cK.refl hJ
  refine sx_iconst dX1_timeAlone_0 ⟨by decide, by decide⟩ ?_
  refine sx_istore dX1_timeAlone_1 (by decide) ?_
  refine sx_iconst dX1_timeAlone_3 ⟨by decide, by decide⟩ ?_
  refine sx_istore dX1_timeAlone_4 (by decide) ?_
  refine sx_aload_n dX1_timeAlone_6 rfl ?_
  refine sx_getS (k := 9) (t := 6) cl_0 fl_X1_45 dX1_timeAlone_7 s_1 (by decide) rfl (by decide) ?_
  refine sx_iload_n dX1_timeAlone_10 rfl ?_
  refine sy_iaF (F := fun z => (0 : Int) ≤ z ∧ z ≤ 60) dX1_timeAlone_11 s_6 (by decide) (by decide) ⟨by omega, by omega⟩ (hI.1.1 6 _) (fun r1 => ?_)
  refine sy_top (fun v2 ev2 => ?_)
  refine sx_istore dX1_timeAlone_12 (by decide) ?_
  refine sx_loop3 (fun (h : sw_H) (s : Int) (p : Int) (i : Int) => (cK prK h0 h) ∧ (0 ≤ i) ∧ (0 ≤ p) ∧ (p ≤ 4)) (fun (h : sw_H) (s : Int) (p : Int) (i : Int) => (60 - i).toNat) (fun (h : sw_H) (s : Int) (p : Int) (i : Int) => sw_E G NH SH (d + 1) mX1_timeAlone 14 [some (sw_r 177), some (sw_r 1), some (sw_i l), some (sw_i w), some (sw_i s), some (sw_i p), some (sw_i i), none] [] h (sw_Qi (fun z h' => cK prK h0 h'))) ?_ _ _ _ _ ?_
  · rintro h3 s_4 p_5 i_6 ⟨Ih3, j7, j8, j9⟩ ihh3
    try dsimp only at ihh3
    refine sx_iload dX1_timeAlone_14 rfl ?_
    refine sx_aload_n dX1_timeAlone_16 rfl ?_
    refine sx_getS (k := 9) (t := 6) cl_0 fl_X1_45 dX1_timeAlone_17 s_1 (by decide) rfl (by decide) ?_
    refine sx_iload_n dX1_timeAlone_20 rfl ?_
    refine sx_iconst dX1_timeAlone_21 ⟨by decide, by decide⟩ ?_
    refine sx_iadd dX1_timeAlone_22 ?_
    refine sy_topw (by omega) ?_
    refine sy_iaF (F := fun z => (0 : Int) ≤ z ∧ z ≤ 60) dX1_timeAlone_23 s_6 (by decide) (by decide) ⟨by omega, by omega⟩ (Ih3.1.1 6 _) (fun r10 => ?_)
    refine sx_icmp_ge (tgt := 290) dX1_timeAlone_24 (by decide) (fun c11 => ?_) (fun c11 => ?_)
    ·
      refine sx_iload dX1_timeAlone_290 rfl ?_
      refine sx_ireturn dX1_timeAlone_292 ?_
      exact ⟨_, rfl, Ih3⟩
    ·
      refine sx_aload_n dX1_timeAlone_27 rfl ?_
      refine sx_getS (k := 6) (t := 3) cl_0 fl_X1_48 dX1_timeAlone_28 s_1 (by decide) rfl (by decide) ?_
      refine sx_iload dX1_timeAlone_31 rfl ?_
      refine sx_iaload dX1_timeAlone_33 s_3 (by decide) (by decide) ⟨by omega, by omega⟩ ?_
      refine sy_top (fun v12 ev12 => ?_)
      refine sx_istore dX1_timeAlone_34 (by decide) ?_
      refine sx_aload_n dX1_timeAlone_36 rfl ?_
      refine sx_getS (k := 5) (t := 2) cl_0 fl_X1_51 dX1_timeAlone_37 s_1 (by decide) rfl (by decide) ?_
      refine sx_iload dX1_timeAlone_40 rfl ?_
      refine sx_iaload dX1_timeAlone_42 s_2 (by decide) (by decide) ⟨by omega, by omega⟩ ?_
      have r1 := R1at1 Ih3.1 (i_6).toNat
      refine sx_tsw (dt := 253) (ts := [88, 103, 118, 253, 154, 169, 253, 212]) dX1_timeAlone_43 (by decide) (by decide) (by decide) (fun c13 => ?_) (And.intro (fun c13 => ?_) (And.intro (fun c13 => ?_) (And.intro (fun c13 => ?_) (And.intro (fun c13 => ?_) (And.intro (fun c13 => ?_) (And.intro (fun c13 => ?_) (And.intro (fun c13 => ?_) (And.intro (fun c13 => ?_) trivial))))))))
      ·
        refine sx_iconst dX1_timeAlone_253 ⟨by decide, by decide⟩ ?_
        refine sx_iload dX1_timeAlone_254 rfl ?_
        refine sx_iconst dX1_timeAlone_256 ⟨by decide, by decide⟩ ?_
        refine sx_iadd dX1_timeAlone_257 ?_
        refine sy_topw (by omega) ?_
        refine sx_min lm_X1_60 lw_min dX1_timeAlone_258 (Nat.le_of_ble_eq_true rfl) ?_
        refine sy_min (fun m14 em14 fm14 gm14 => ?_)
        refine sy_top (fun v15 ev15 => ?_)
        refine sx_istore dX1_timeAlone_261 (by decide) ?_
        refine sx_aload_n dX1_timeAlone_263 rfl ?_
        refine sx_getS (k := 2) (t := 180) cl_1 fl_X1_18 dX1_timeAlone_264 s_177 (by decide) rfl (by decide) ?_
        refine sx_iload dX1_timeAlone_267 rfl ?_
        refine sx_iload dX1_timeAlone_269 rfl ?_
        refine sy_iastore dX1_timeAlone_271 s_180 (by decide) (by decide) ⟨by omega, by omega⟩ (fun h16 eh16 => ?_)
        have Ih16 := Ih3.up eh16 trivial rfl rfl
        refine sx_aload_n dX1_timeAlone_272 rfl ?_
        refine sx_getS (k := 3) (t := 181) cl_1 fl_X1_21 dX1_timeAlone_273 s_177 (by decide) rfl (by decide) ?_
        refine sx_iload dX1_timeAlone_276 rfl ?_
        refine sx_iload dX1_timeAlone_278 rfl ?_
        refine sy_iastore dX1_timeAlone_280 s_181 (by decide) (by decide) ⟨by omega, by omega⟩ (fun h17 eh17 => ?_)
        have Ih17 := Ih16.up eh17 trivial rfl rfl
        refine sx_iconst dX1_timeAlone_281 ⟨by decide, by decide⟩ ?_
        refine sx_istore dX1_timeAlone_282 (by decide) ?_
        refine sx_iinc dX1_timeAlone_284 (by decide) rfl ?_
        rw [sw_w_id (by omega) (by omega)]
        refine sx_goto (tgt := 14) dX1_timeAlone_287 (by decide) ?_
        refine sx_kill 7 ?_
        exact ihh3 _ _ _ _ ⟨Ih17, by omega, by omega, by omega⟩ (by exact sy_dec (by omega) (by omega))
      ·
        refine sx_iload dX1_timeAlone_88 rfl ?_
        refine sx_aload_n dX1_timeAlone_90 rfl ?_
        refine sx_getS (k := 0) (t := 178) cl_1 fl_X1_9 dX1_timeAlone_91 s_177 (by decide) rfl (by decide) ?_
        refine sx_iload dX1_timeAlone_94 rfl ?_
        refine sx_iaload dX1_timeAlone_96 s_178 (by decide) (by decide) ⟨by omega, by omega⟩ ?_
        refine sx_iadd dX1_timeAlone_97 ?_
        refine sy_top (fun v18 ev18 => ?_)
        refine sx_istore dX1_timeAlone_98 (by decide) ?_
        refine sx_goto (tgt := 284) dX1_timeAlone_100 (by decide) ?_
        refine sx_iinc dX1_timeAlone_284 (by decide) rfl ?_
        rw [sw_w_id (by omega) (by omega)]
        refine sx_goto (tgt := 14) dX1_timeAlone_287 (by decide) ?_
        refine sx_kill 7 ?_
        exact ihh3 _ _ _ _ ⟨Ih3, by omega, by omega, by omega⟩ (by exact sy_dec (by omega) (by omega))
      ·
        refine sx_iload dX1_timeAlone_103 rfl ?_
        refine sx_aload_n dX1_timeAlone_105 rfl ?_
        refine sx_getS (k := 0) (t := 178) cl_1 fl_X1_9 dX1_timeAlone_106 s_177 (by decide) rfl (by decide) ?_
        refine sx_bipush dX1_timeAlone_109 ⟨by decide, by decide, by decide⟩ ?_
        refine sx_iaload dX1_timeAlone_111 s_178 (by decide) (by decide) ⟨by omega, by omega⟩ ?_
        refine sx_iadd dX1_timeAlone_112 ?_
        refine sy_top (fun v19 ev19 => ?_)
        refine sx_istore dX1_timeAlone_113 (by decide) ?_
        refine sx_goto (tgt := 284) dX1_timeAlone_115 (by decide) ?_
        refine sx_iinc dX1_timeAlone_284 (by decide) rfl ?_
        rw [sw_w_id (by omega) (by omega)]
        refine sx_goto (tgt := 14) dX1_timeAlone_287 (by decide) ?_
        refine sx_kill 7 ?_
        exact ihh3 _ _ _ _ ⟨Ih3, by omega, by omega, by omega⟩ (by exact sy_dec (by omega) (by omega))
      ·
        refine sx_iload dX1_timeAlone_118 rfl ?_
        refine sx_aload_n dX1_timeAlone_120 rfl ?_
        refine sx_getS (k := 1) (t := 179) cl_1 fl_X1_15 dX1_timeAlone_121 s_177 (by decide) rfl (by decide) ?_
        refine sx_iload dX1_timeAlone_124 rfl ?_
        refine sx_iaload dX1_timeAlone_126 s_179 (by decide) (by decide) ⟨by omega, by omega⟩ ?_
        refine sx_iload_n dX1_timeAlone_127 rfl ?_
        refine sx_iload dX1_timeAlone_128 rfl ?_
        refine sx_ishr dX1_timeAlone_130 ?_
        refine sx_iconst dX1_timeAlone_131 ⟨by decide, by decide⟩ ?_
        refine sx_iand dX1_timeAlone_132 ?_
        refine sx_if_ne (tgt := 146) dX1_timeAlone_133 (by decide) (fun c20 => ?_) (fun c20 => ?_)
        ·
          refine sx_iconst dX1_timeAlone_146 ⟨by decide, by decide⟩ ?_
          refine sx_iadd dX1_timeAlone_147 ?_
          refine sx_iadd dX1_timeAlone_148 ?_
          refine sy_top (fun v21 ev21 => ?_)
          refine sx_istore dX1_timeAlone_149 (by decide) ?_
          refine sx_goto (tgt := 284) dX1_timeAlone_151 (by decide) ?_
          refine sx_iinc dX1_timeAlone_284 (by decide) rfl ?_
          rw [sw_w_id (by omega) (by omega)]
          refine sx_goto (tgt := 14) dX1_timeAlone_287 (by decide) ?_
          refine sx_kill 7 ?_
          exact ihh3 _ _ _ _ ⟨Ih3, by omega, by omega, by omega⟩ (by exact sy_dec (by omega) (by omega))
        ·
          refine sx_aload_n dX1_timeAlone_136 rfl ?_
          refine sx_getS (k := 0) (t := 178) cl_1 fl_X1_9 dX1_timeAlone_137 s_177 (by decide) rfl (by decide) ?_
          refine sx_bipush dX1_timeAlone_140 ⟨by decide, by decide, by decide⟩ ?_
          refine sx_iaload dX1_timeAlone_142 s_178 (by decide) (by decide) ⟨by omega, by omega⟩ ?_
          refine sx_goto (tgt := 147) dX1_timeAlone_143 (by decide) ?_
          refine sx_iadd dX1_timeAlone_147 ?_
          refine sx_iadd dX1_timeAlone_148 ?_
          refine sy_top (fun v22 ev22 => ?_)
          refine sx_istore dX1_timeAlone_149 (by decide) ?_
          refine sx_goto (tgt := 284) dX1_timeAlone_151 (by decide) ?_
          refine sx_iinc dX1_timeAlone_284 (by decide) rfl ?_
          rw [sw_w_id (by omega) (by omega)]
          refine sx_goto (tgt := 14) dX1_timeAlone_287 (by decide) ?_
          refine sx_kill 7 ?_
          exact ihh3 _ _ _ _ ⟨Ih3, by omega, by omega, by omega⟩ (by exact sy_dec (by omega) (by omega))
      ·
        refine sx_iconst dX1_timeAlone_253 ⟨by decide, by decide⟩ ?_
        refine sx_iload dX1_timeAlone_254 rfl ?_
        refine sx_iconst dX1_timeAlone_256 ⟨by decide, by decide⟩ ?_
        refine sx_iadd dX1_timeAlone_257 ?_
        refine sy_topw (by omega) ?_
        refine sx_min lm_X1_60 lw_min dX1_timeAlone_258 (Nat.le_of_ble_eq_true rfl) ?_
        refine sy_min (fun m23 em23 fm23 gm23 => ?_)
        refine sy_top (fun v24 ev24 => ?_)
        refine sx_istore dX1_timeAlone_261 (by decide) ?_
        refine sx_aload_n dX1_timeAlone_263 rfl ?_
        refine sx_getS (k := 2) (t := 180) cl_1 fl_X1_18 dX1_timeAlone_264 s_177 (by decide) rfl (by decide) ?_
        refine sx_iload dX1_timeAlone_267 rfl ?_
        refine sx_iload dX1_timeAlone_269 rfl ?_
        refine sy_iastore dX1_timeAlone_271 s_180 (by decide) (by decide) ⟨by omega, by omega⟩ (fun h25 eh25 => ?_)
        have Ih25 := Ih3.up eh25 trivial rfl rfl
        refine sx_aload_n dX1_timeAlone_272 rfl ?_
        refine sx_getS (k := 3) (t := 181) cl_1 fl_X1_21 dX1_timeAlone_273 s_177 (by decide) rfl (by decide) ?_
        refine sx_iload dX1_timeAlone_276 rfl ?_
        refine sx_iload dX1_timeAlone_278 rfl ?_
        refine sy_iastore dX1_timeAlone_280 s_181 (by decide) (by decide) ⟨by omega, by omega⟩ (fun h26 eh26 => ?_)
        have Ih26 := Ih25.up eh26 trivial rfl rfl
        refine sx_iconst dX1_timeAlone_281 ⟨by decide, by decide⟩ ?_
        refine sx_istore dX1_timeAlone_282 (by decide) ?_
        refine sx_iinc dX1_timeAlone_284 (by decide) rfl ?_
        rw [sw_w_id (by omega) (by omega)]
        refine sx_goto (tgt := 14) dX1_timeAlone_287 (by decide) ?_
        refine sx_kill 7 ?_
        exact ihh3 _ _ _ _ ⟨Ih26, by omega, by omega, by omega⟩ (by exact sy_dec (by omega) (by omega))
      ·
        refine sx_aload_n dX1_timeAlone_154 rfl ?_
        refine sx_getS (k := 3) (t := 181) cl_1 fl_X1_21 dX1_timeAlone_155 s_177 (by decide) rfl (by decide) ?_
        refine sx_iload dX1_timeAlone_158 rfl ?_
        refine sx_iload dX1_timeAlone_160 rfl ?_
        refine sy_iastore dX1_timeAlone_162 s_181 (by decide) (by decide) ⟨by omega, by omega⟩ (fun h27 eh27 => ?_)
        have Ih27 := Ih3.up eh27 trivial rfl rfl
        refine sx_iconst dX1_timeAlone_163 ⟨by decide, by decide⟩ ?_
        refine sx_istore dX1_timeAlone_164 (by decide) ?_
        refine sx_goto (tgt := 284) dX1_timeAlone_166 (by decide) ?_
        refine sx_iinc dX1_timeAlone_284 (by decide) rfl ?_
        rw [sw_w_id (by omega) (by omega)]
        refine sx_goto (tgt := 14) dX1_timeAlone_287 (by decide) ?_
        refine sx_kill 7 ?_
        exact ihh3 _ _ _ _ ⟨Ih27, by omega, by omega, by omega⟩ (by exact sy_dec (by omega) (by omega))
      ·
        refine sx_aload_n dX1_timeAlone_169 rfl ?_
        refine sx_getS (k := 2) (t := 180) cl_1 fl_X1_18 dX1_timeAlone_170 s_177 (by decide) rfl (by decide) ?_
        refine sx_iload dX1_timeAlone_173 rfl ?_
        refine sx_iaload dX1_timeAlone_175 s_180 (by decide) (by decide) ⟨by omega, by omega⟩ ?_
        refine sx_aload_n dX1_timeAlone_176 rfl ?_
        refine sx_getS (k := 0) (t := 178) cl_1 fl_X1_9 dX1_timeAlone_177 s_177 (by decide) rfl (by decide) ?_
        refine sx_bipush dX1_timeAlone_180 ⟨by decide, by decide, by decide⟩ ?_
        refine sx_iaload dX1_timeAlone_182 s_178 (by decide) (by decide) ⟨by omega, by omega⟩ ?_
        refine sx_iadd dX1_timeAlone_183 ?_
        refine sx_iload dX1_timeAlone_184 rfl ?_
        refine sx_aload_n dX1_timeAlone_186 rfl ?_
        refine sx_getS (k := 3) (t := 181) cl_1 fl_X1_21 dX1_timeAlone_187 s_177 (by decide) rfl (by decide) ?_
        refine sx_iload dX1_timeAlone_190 rfl ?_
        refine sx_iaload dX1_timeAlone_192 s_181 (by decide) (by decide) ⟨by omega, by omega⟩ ?_
        refine sx_max lm_X1_54 lw_max dX1_timeAlone_193 (Nat.le_of_ble_eq_true rfl) ?_
        refine sy_max (fun m28 em28 fm28 gm28 => ?_)
        refine sx_iadd dX1_timeAlone_196 ?_
        refine sy_top (fun v29 ev29 => ?_)
        refine sx_istore dX1_timeAlone_197 (by decide) ?_
        refine sx_iconst dX1_timeAlone_199 ⟨by decide, by decide⟩ ?_
        refine sx_iload dX1_timeAlone_200 rfl ?_
        refine sx_iconst dX1_timeAlone_202 ⟨by decide, by decide⟩ ?_
        refine sx_isub dX1_timeAlone_203 ?_
        refine sy_topw (by omega) ?_
        refine sx_max lm_X1_54 lw_max dX1_timeAlone_204 (Nat.le_of_ble_eq_true rfl) ?_
        refine sy_max (fun m30 em30 fm30 gm30 => ?_)
        refine sy_top (fun v31 ev31 => ?_)
        refine sx_istore dX1_timeAlone_207 (by decide) ?_
        refine sx_goto (tgt := 284) dX1_timeAlone_209 (by decide) ?_
        refine sx_iinc dX1_timeAlone_284 (by decide) rfl ?_
        rw [sw_w_id (by omega) (by omega)]
        refine sx_goto (tgt := 14) dX1_timeAlone_287 (by decide) ?_
        refine sx_kill 7 ?_
        exact ihh3 _ _ _ _ ⟨Ih3, by omega, by omega, by omega⟩ (by exact sy_dec (by omega) (by omega))
      ·
        refine sx_iconst dX1_timeAlone_253 ⟨by decide, by decide⟩ ?_
        refine sx_iload dX1_timeAlone_254 rfl ?_
        refine sx_iconst dX1_timeAlone_256 ⟨by decide, by decide⟩ ?_
        refine sx_iadd dX1_timeAlone_257 ?_
        refine sy_topw (by omega) ?_
        refine sx_min lm_X1_60 lw_min dX1_timeAlone_258 (Nat.le_of_ble_eq_true rfl) ?_
        refine sy_min (fun m32 em32 fm32 gm32 => ?_)
        refine sy_top (fun v33 ev33 => ?_)
        refine sx_istore dX1_timeAlone_261 (by decide) ?_
        refine sx_aload_n dX1_timeAlone_263 rfl ?_
        refine sx_getS (k := 2) (t := 180) cl_1 fl_X1_18 dX1_timeAlone_264 s_177 (by decide) rfl (by decide) ?_
        refine sx_iload dX1_timeAlone_267 rfl ?_
        refine sx_iload dX1_timeAlone_269 rfl ?_
        refine sy_iastore dX1_timeAlone_271 s_180 (by decide) (by decide) ⟨by omega, by omega⟩ (fun h34 eh34 => ?_)
        have Ih34 := Ih3.up eh34 trivial rfl rfl
        refine sx_aload_n dX1_timeAlone_272 rfl ?_
        refine sx_getS (k := 3) (t := 181) cl_1 fl_X1_21 dX1_timeAlone_273 s_177 (by decide) rfl (by decide) ?_
        refine sx_iload dX1_timeAlone_276 rfl ?_
        refine sx_iload dX1_timeAlone_278 rfl ?_
        refine sy_iastore dX1_timeAlone_280 s_181 (by decide) (by decide) ⟨by omega, by omega⟩ (fun h35 eh35 => ?_)
        have Ih35 := Ih34.up eh35 trivial rfl rfl
        refine sx_iconst dX1_timeAlone_281 ⟨by decide, by decide⟩ ?_
        refine sx_istore dX1_timeAlone_282 (by decide) ?_
        refine sx_iinc dX1_timeAlone_284 (by decide) rfl ?_
        rw [sw_w_id (by omega) (by omega)]
        refine sx_goto (tgt := 14) dX1_timeAlone_287 (by decide) ?_
        refine sx_kill 7 ?_
        exact ihh3 _ _ _ _ ⟨Ih35, by omega, by omega, by omega⟩ (by exact sy_dec (by omega) (by omega))
      ·
        refine sx_aload_n dX1_timeAlone_212 rfl ?_
        refine sx_getS (k := 2) (t := 180) cl_1 fl_X1_18 dX1_timeAlone_213 s_177 (by decide) rfl (by decide) ?_
        refine sx_iload dX1_timeAlone_216 rfl ?_
        refine sx_iaload dX1_timeAlone_218 s_180 (by decide) (by decide) ⟨by omega, by omega⟩ ?_
        refine sx_aload_n dX1_timeAlone_219 rfl ?_
        refine sx_getS (k := 3) (t := 181) cl_1 fl_X1_21 dX1_timeAlone_220 s_177 (by decide) rfl (by decide) ?_
        refine sx_iload dX1_timeAlone_223 rfl ?_
        refine sx_iaload dX1_timeAlone_225 s_181 (by decide) (by decide) ⟨by omega, by omega⟩ ?_
        refine sx_aload_n dX1_timeAlone_226 rfl ?_
        refine sx_getS (k := 0) (t := 178) cl_1 fl_X1_9 dX1_timeAlone_227 s_177 (by decide) rfl (by decide) ?_
        refine sx_bipush dX1_timeAlone_230 ⟨by decide, by decide, by decide⟩ ?_
        refine sx_iaload dX1_timeAlone_232 s_178 (by decide) (by decide) ⟨by omega, by omega⟩ ?_
        refine sx_iload dX1_timeAlone_233 rfl ?_
        refine sx_iadd dX1_timeAlone_235 ?_
        refine sx_imul dX1_timeAlone_236 ?_
        refine sx_iadd dX1_timeAlone_237 ?_
        refine sy_top (fun v36 ev36 => ?_)
        refine sx_istore dX1_timeAlone_238 (by decide) ?_
        refine sx_iconst dX1_timeAlone_240 ⟨by decide, by decide⟩ ?_
        refine sx_iload dX1_timeAlone_241 rfl ?_
        refine sx_iconst dX1_timeAlone_243 ⟨by decide, by decide⟩ ?_
        refine sx_isub dX1_timeAlone_244 ?_
        refine sy_topw (by omega) ?_
        refine sx_max lm_X1_54 lw_max dX1_timeAlone_245 (Nat.le_of_ble_eq_true rfl) ?_
        refine sy_max (fun m37 em37 fm37 gm37 => ?_)
        refine sy_top (fun v38 ev38 => ?_)
        refine sx_istore dX1_timeAlone_248 (by decide) ?_
        refine sx_goto (tgt := 284) dX1_timeAlone_250 (by decide) ?_
        refine sx_iinc dX1_timeAlone_284 (by decide) rfl ?_
        rw [sw_w_id (by omega) (by omega)]
        refine sx_goto (tgt := 14) dX1_timeAlone_287 (by decide) ?_
        refine sx_kill 7 ?_
        exact ihh3 _ _ _ _ ⟨Ih3, by omega, by omega, by omega⟩ (by exact sy_dec (by omega) (by omega))
  · exact ⟨hI, by omega, by omega, by omega⟩
set_option maxRecDepth 20000 in
set_option maxHeartbeats 4000000 in
theorem c_X1_timeOf_1 {G : sw_G} (d : Nat) {h0 : sw_H} (hJ : cJ h0) (l w : Int) (hw : 0 ≤ w ∧ w < 6) : sw_E G NH SH (d + 2) mX1_timeOf 0 [some (sw_r 177), some (sw_r 1), some (sw_i l), some (sw_i w), none] [] h0 (sw_Qi (fun z h' => cK prK h0 h')) := by
  have hI : cK prK h0 h0 := cK.refl hJ
  refine sx_iconst dX1_timeOf_0 ⟨by decide, by decide⟩ ?_
  refine sx_istore dX1_timeOf_1 (by decide) ?_
  refine sx_loop1 (fun (h : sw_H) (i : Int) => (cK prK h0 h) ∧ (0 ≤ i)) (fun (h : sw_H) (i : Int) => (6 - i).toNat) (fun (h : sw_H) (i : Int) => sw_E G NH SH (d + 2) mX1_timeOf 3 [some (sw_r 177), some (sw_r 1), some (sw_i l), some (sw_i w), some (sw_i i)] [] h (sw_Qi (fun z h' => cK prK h0 h'))) ?_ _ _ ?_
  · rintro h1 i_2 ⟨Ih1, j3⟩ ihh1
    try dsimp only at ihh1
    refine sx_iload dX1_timeOf_3 rfl ?_
    refine sx_iload_n dX1_timeOf_5 rfl ?_
    refine sx_icmp_gt (tgt := 30) dX1_timeOf_6 (by decide) (fun c4 => ?_) (fun c4 => ?_)
    ·
      refine sx_aload_n dX1_timeOf_30 rfl ?_
      refine sx_getS (k := 1) (t := 179) cl_1 fl_X1_15 dX1_timeOf_31 s_177 (by decide) rfl (by decide) ?_
      refine sx_iload_n dX1_timeOf_34 rfl ?_
      refine sx_iaload dX1_timeOf_35 s_179 (by decide) (by decide) ⟨by omega, by omega⟩ ?_
      refine sx_ireturn dX1_timeOf_36 ?_
      exact ⟨_, rfl, Ih1⟩
    ·
      refine sx_aload_n dX1_timeOf_9 rfl ?_
      refine sx_getS (k := 1) (t := 179) cl_1 fl_X1_15 dX1_timeOf_10 s_177 (by decide) rfl (by decide) ?_
      refine sx_iload dX1_timeOf_13 rfl ?_
      refine sx_aload_n dX1_timeOf_15 rfl ?_
      refine sx_aload_n dX1_timeOf_16 rfl ?_
      refine sx_iload_n dX1_timeOf_17 rfl ?_
      refine sx_iload dX1_timeOf_18 rfl ?_
      refine sx_callVi lk_X1_41 cl_1 s_177 (by decide) dX1_timeOf_20 (vs := [_, _, _]) rfl rfl (Nat.le_of_ble_eq_true rfl) (Nat.le_of_ble_eq_true rfl) rfl (c_X1_timeAlone_1 _ Ih1.1 _ _ (by omega)) (fun x6 h5 ph5 => ?_)
      have Kh5 := ph5
      have Ih5 := Ih1.tr Kh5 sb_prK_prK
      refine sy_iastore dX1_timeOf_23 s_179 (by decide) (by decide) ⟨by omega, by omega⟩ (fun h7 eh7 => ?_)
      have Ih7 := Ih5.up eh7 trivial rfl rfl
      refine sx_iinc dX1_timeOf_24 (by decide) rfl ?_
      rw [sw_w_id (by omega) (by omega)]
      refine sx_goto (tgt := 3) dX1_timeOf_27 (by decide) ?_
      exact ihh1 _ _ ⟨Ih7, by omega⟩ (by exact sy_dec (by omega) (by omega))
  · exact ⟨hI, by omega⟩
set_option maxRecDepth 20000 in
set_option maxHeartbeats 4000000 in
theorem c_X1_roomOf_1 {G : sw_G} (d : Nat) {h0 : sw_H} (hJ : cJ h0) (l w f : Int) (hw : 0 ≤ w ∧ w < 6) : sw_E G NH SH (d + 1) mX1_roomOf 0 [some (sw_r 177), some (sw_r 1), some (sw_i l), some (sw_i w), some (sw_i f), none, none, none] [] h0 (sw_Qi (fun z h' => cK prK h0 h')) := by
  have hI : cK prK h0 h0 := cK.refl hJ
  refine sx_iconst dX1_roomOf_0 ⟨by decide, by decide⟩ ?_
  refine sx_istore dX1_roomOf_1 (by decide) ?_
  refine sx_loop1 (fun (h : sw_H) (i : Int) => (cK prK h0 h) ∧ (0 ≤ i)) (fun (h : sw_H) (i : Int) => (6 - i).toNat) (fun (h : sw_H) (i : Int) => sw_E G NH SH (d + 1) mX1_roomOf 3 [some (sw_r 177), some (sw_r 1), some (sw_i l), some (sw_i w), some (sw_i f), some (sw_i i), none, none] [] h (sw_Qi (fun z h' => cK prK h0 h'))) ?_ _ _ ?_
  · rintro h1 i_2 ⟨Ih1, j3⟩ ihh1
    try dsimp only at ihh1
    refine sx_iload dX1_roomOf_3 rfl ?_
    refine sx_iload_n dX1_roomOf_5 rfl ?_
    refine sx_icmp_gt (tgt := 82) dX1_roomOf_6 (by decide) (fun c4 => ?_) (fun c4 => ?_)
    ·
      refine sx_iconst dX1_roomOf_82 ⟨by decide, by decide⟩ ?_
      refine sx_iload dX1_roomOf_83 rfl ?_
      refine sx_iadd dX1_roomOf_85 ?_
      refine sx_aload_n dX1_roomOf_86 rfl ?_
      refine sx_getS (k := 1) (t := 179) cl_1 fl_X1_15 dX1_roomOf_87 s_177 (by decide) rfl (by decide) ?_
      refine sx_iload_n dX1_roomOf_90 rfl ?_
      refine sx_iaload dX1_roomOf_91 s_179 (by decide) (by decide) ⟨by omega, by omega⟩ ?_
      refine sx_iadd dX1_roomOf_92 ?_
      refine sx_ireturn dX1_roomOf_93 ?_
      exact ⟨_, rfl, Ih1⟩
    ·
      refine sx_iconst dX1_roomOf_9 ⟨by decide, by decide⟩ ?_
      refine sx_istore dX1_roomOf_10 (by decide) ?_
      refine sx_aload_n dX1_roomOf_12 rfl ?_
      refine sx_getS (k := 9) (t := 6) cl_0 fl_X1_45 dX1_roomOf_13 s_1 (by decide) rfl (by decide) ?_
      refine sx_iload dX1_roomOf_16 rfl ?_
      refine sy_iaF (F := fun z => (0 : Int) ≤ z ∧ z ≤ 60) dX1_roomOf_18 s_6 (by decide) (by decide) ⟨by omega, by omega⟩ (Ih1.1.1 6 _) (fun r5 => ?_)
      refine sy_top (fun v6 ev6 => ?_)
      refine sx_istore dX1_roomOf_19 (by decide) ?_
      refine sx_loop2 (fun (h : sw_H) (s : Int) (j : Int) => (cK prK h0 h) ∧ (0 ≤ j)) (fun (h : sw_H) (s : Int) (j : Int) => (60 - j).toNat) (fun (h : sw_H) (s : Int) (j : Int) => sw_E G NH SH (d + 1) mX1_roomOf 21 [some (sw_r 177), some (sw_r 1), some (sw_i l), some (sw_i w), some (sw_i f), some (sw_i i_2), some (sw_i s), some (sw_i j)] [] h (sw_Qi (fun z h' => cK prK h0 h'))) ?_ _ _ _ ?_
      · rintro h7 s_8 j_9 ⟨Ih7, j10⟩ ihh7
        try dsimp only at ihh7
        refine sx_iload dX1_roomOf_21 rfl ?_
        refine sx_aload_n dX1_roomOf_23 rfl ?_
        refine sx_getS (k := 9) (t := 6) cl_0 fl_X1_45 dX1_roomOf_24 s_1 (by decide) rfl (by decide) ?_
        refine sx_iload dX1_roomOf_27 rfl ?_
        refine sx_iconst dX1_roomOf_29 ⟨by decide, by decide⟩ ?_
        refine sx_iadd dX1_roomOf_30 ?_
        refine sy_topw (by omega) ?_
        refine sy_iaF (F := fun z => (0 : Int) ≤ z ∧ z ≤ 60) dX1_roomOf_31 s_6 (by decide) (by decide) ⟨by omega, by omega⟩ (Ih7.1.1 6 _) (fun r11 => ?_)
        refine sx_icmp_ge (tgt := 67) dX1_roomOf_32 (by decide) (fun c12 => ?_) (fun c12 => ?_)
        ·
          refine sx_aload_n dX1_roomOf_67 rfl ?_
          refine sx_getS (k := 1) (t := 179) cl_1 fl_X1_15 dX1_roomOf_68 s_177 (by decide) rfl (by decide) ?_
          refine sx_iload dX1_roomOf_71 rfl ?_
          refine sx_iload dX1_roomOf_73 rfl ?_
          refine sy_iastore dX1_roomOf_75 s_179 (by decide) (by decide) ⟨by omega, by omega⟩ (fun h13 eh13 => ?_)
          have Ih13 := Ih7.up eh13 trivial rfl rfl
          refine sx_iinc dX1_roomOf_76 (by decide) rfl ?_
          rw [sw_w_id (by omega) (by omega)]
          refine sx_goto (tgt := 3) dX1_roomOf_79 (by decide) ?_
          refine sx_kill 6 ?_
          refine sx_kill 7 ?_
          exact ihh1 _ _ ⟨Ih13, by omega⟩ (by exact sy_dec (by omega) (by omega))
        ·
          refine sx_iload dX1_roomOf_35 rfl ?_
          refine sx_aload_n dX1_roomOf_37 rfl ?_
          refine sx_aload_n dX1_roomOf_38 rfl ?_
          refine sx_getS (k := 5) (t := 2) cl_0 fl_X1_51 dX1_roomOf_39 s_1 (by decide) rfl (by decide) ?_
          refine sx_iload dX1_roomOf_42 rfl ?_
          refine sx_iaload dX1_roomOf_44 s_2 (by decide) (by decide) ⟨by omega, by omega⟩ ?_
          refine sx_aload_n dX1_roomOf_45 rfl ?_
          refine sx_getS (k := 6) (t := 3) cl_0 fl_X1_48 dX1_roomOf_46 s_1 (by decide) rfl (by decide) ?_
          refine sx_iload dX1_roomOf_49 rfl ?_
          refine sx_iaload dX1_roomOf_51 s_3 (by decide) (by decide) ⟨by omega, by omega⟩ ?_
          refine sx_iload_n dX1_roomOf_52 rfl ?_
          refine sx_iload dX1_roomOf_53 rfl ?_
          have r1 := R1at1 Ih7.1 (j_9).toNat
          refine sx_callVi lk_X1_63 cl_1 s_177 (by decide) dX1_roomOf_55 (vs := [_, _, _, _]) rfl rfl (Nat.le_of_ble_eq_true rfl) (Nat.le_of_ble_eq_true rfl) rfl (c_X1_roomOfItem _ Ih7.1 _ _ _ _ (fun q => by omega)) (fun x15 h14 ph14 => ?_)
          subst ph14
          refine sx_iadd dX1_roomOf_58 ?_
          refine sy_top (fun v16 ev16 => ?_)
          refine sx_istore dX1_roomOf_59 (by decide) ?_
          refine sx_iinc dX1_roomOf_61 (by decide) rfl ?_
          rw [sw_w_id (by omega) (by omega)]
          refine sx_goto (tgt := 21) dX1_roomOf_64 (by decide) ?_
          exact ihh7 _ _ _ ⟨Ih7, by omega⟩ (by exact sy_dec (by omega) (by omega))
      · exact ⟨Ih1, by omega⟩
  · exact ⟨hI, by omega⟩
set_option maxRecDepth 20000 in
set_option maxHeartbeats 4000000 in
theorem c_X1_bestForm_1 {G : sw_G} (d : Nat) {h0 : sw_H} (hJ : cJ h0) (l w : Int) (hw : 0 ≤ w ∧ w < 6) : sw_E G NH SH (d + 3) mX1_bestForm 0 [some (sw_r 177), some (sw_r 1), some (sw_i l), some (sw_i w), none, none, none, none, none, none] [] h0 (sw_Qi (fun z h' => cK prK h0 h')) := by
  have hI : cK prK h0 h0 := cK.refl hJ
  refine sx_iconst dX1_bestForm_0 ⟨by decide, by decide⟩ ?_
  refine sx_istore dX1_bestForm_1 (by decide) ?_
  refine sx_ldc kc_X1_67 ⟨by decide, by decide⟩ dX1_bestForm_3 ?_
  refine sx_istore dX1_bestForm_5 (by decide) ?_
  refine sx_ldc kc_X1_67 ⟨by decide, by decide⟩ dX1_bestForm_7 ?_
  refine sx_istore dX1_bestForm_9 (by decide) ?_
  refine sx_iconst dX1_bestForm_11 ⟨by decide, by decide⟩ ?_
  refine sx_istore dX1_bestForm_12 (by decide) ?_
  refine sx_loop4 (fun (h : sw_H) (a : Int) (b : Int) (e : Int) (f : Int) => (cK prK h0 h) ∧ (0 ≤ f)) (fun (h : sw_H) (a : Int) (b : Int) (e : Int) (f : Int) => (3 - f).toNat) (fun (h : sw_H) (a : Int) (b : Int) (e : Int) (f : Int) => sw_E G NH SH (d + 3) mX1_bestForm 14 [some (sw_r 177), some (sw_r 1), some (sw_i l), some (sw_i w), some (sw_i a), some (sw_i b), some (sw_i e), some (sw_i f), none, none] [] h (sw_Qi (fun z h' => cK prK h0 h'))) ?_ _ _ _ _ _ ?_
  · rintro h1 a_2 b_3 e_4 f_5 ⟨Ih1, j6⟩ ihh1
    try dsimp only at ihh1
    refine sx_iload dX1_bestForm_14 rfl ?_
    refine sx_iconst dX1_bestForm_16 ⟨by decide, by decide⟩ ?_
    refine sx_icmp_ge (tgt := 86) dX1_bestForm_17 (by decide) (fun c7 => ?_) (fun c7 => ?_)
    ·
      refine sx_iload dX1_bestForm_86 rfl ?_
      refine sx_ireturn dX1_bestForm_88 ?_
      exact ⟨_, rfl, Ih1⟩
    ·
      refine sx_aload_n dX1_bestForm_20 rfl ?_
      refine sx_aload_n dX1_bestForm_21 rfl ?_
      refine sx_iload dX1_bestForm_22 rfl ?_
      refine sx_callVv lk_X1_68 cl_1 s_177 (by decide) dX1_bestForm_24 (vs := [_, _]) rfl rfl (Nat.le_of_ble_eq_true rfl) (Nat.le_of_ble_eq_true rfl) rfl (c_X1_priceByForm_1 _ Ih1.1 _ (by omega)) (fun h8 ph8 => ?_)
      have Kh8 := ph8
      have Ih8 := Ih1.tr Kh8 sb_prK_prK
      refine sx_aload_n dX1_bestForm_27 rfl ?_
      refine sx_aload_n dX1_bestForm_28 rfl ?_
      refine sx_iload_n dX1_bestForm_29 rfl ?_
      refine sx_iload_n dX1_bestForm_30 rfl ?_
      refine sx_callVi lk_X1_72 cl_1 s_177 (by decide) dX1_bestForm_31 (vs := [_, _, _]) rfl rfl (Nat.le_of_ble_eq_true rfl) (Nat.le_of_ble_eq_true rfl) rfl (c_X1_timeOf_1 _ Ih8.1 _ _ (by omega)) (fun x11 h10 ph10 => ?_)
      have Kh10 := ph10
      have Ih10 := Ih8.tr Kh10 sb_prK_prK
      refine sx_istore dX1_bestForm_34 (by decide) ?_
      refine sx_aload_n dX1_bestForm_36 rfl ?_
      refine sx_aload_n dX1_bestForm_37 rfl ?_
      refine sx_iload_n dX1_bestForm_38 rfl ?_
      refine sx_iload_n dX1_bestForm_39 rfl ?_
      refine sx_iload dX1_bestForm_40 rfl ?_
      refine sx_callVi lk_X1_75 cl_1 s_177 (by decide) dX1_bestForm_42 (vs := [_, _, _, _]) rfl rfl (Nat.le_of_ble_eq_true rfl) (Nat.le_of_ble_eq_true rfl) rfl (c_X1_roomOf_1 _ Ih10.1 _ _ _ (by omega)) (fun x13 h12 ph12 => ?_)
      have Kh12 := ph12
      have Ih12 := Ih10.tr Kh12 sb_prK_prK
      refine sx_istore dX1_bestForm_45 (by decide) ?_
      refine sx_iload dX1_bestForm_47 rfl ?_
      refine sx_iload dX1_bestForm_49 rfl ?_
      refine sx_icmp_lt (tgt := 68) dX1_bestForm_51 (by decide) (fun c14 => ?_) (fun c14 => ?_)
      ·
        refine sx_iload dX1_bestForm_68 rfl ?_
        refine sx_istore dX1_bestForm_70 (by decide) ?_
        refine sx_iload dX1_bestForm_72 rfl ?_
        refine sx_istore dX1_bestForm_74 (by decide) ?_
        refine sx_iload dX1_bestForm_76 rfl ?_
        refine sx_istore dX1_bestForm_78 (by decide) ?_
        refine sx_iinc dX1_bestForm_80 (by decide) rfl ?_
        rw [sw_w_id (by omega) (by omega)]
        refine sx_goto (tgt := 14) dX1_bestForm_83 (by decide) ?_
        refine sx_kill 8 ?_
        refine sx_kill 9 ?_
        exact ihh1 _ _ _ _ _ ⟨Ih12, by omega⟩ (by exact sy_dec (by omega) (by omega))
      ·
        refine sx_iload dX1_bestForm_54 rfl ?_
        refine sx_iload dX1_bestForm_56 rfl ?_
        refine sx_icmp_ne (tgt := 80) dX1_bestForm_58 (by decide) (fun c15 => ?_) (fun c15 => ?_)
        ·
          refine sx_iinc dX1_bestForm_80 (by decide) rfl ?_
          rw [sw_w_id (by omega) (by omega)]
          refine sx_goto (tgt := 14) dX1_bestForm_83 (by decide) ?_
          refine sx_kill 8 ?_
          refine sx_kill 9 ?_
          exact ihh1 _ _ _ _ _ ⟨Ih12, by omega⟩ (by exact sy_dec (by omega) (by omega))
        ·
          refine sx_iload dX1_bestForm_61 rfl ?_
          refine sx_iload dX1_bestForm_63 rfl ?_
          refine sx_icmp_ge (tgt := 80) dX1_bestForm_65 (by decide) (fun c16 => ?_) (fun c16 => ?_)
          ·
            refine sx_iinc dX1_bestForm_80 (by decide) rfl ?_
            rw [sw_w_id (by omega) (by omega)]
            refine sx_goto (tgt := 14) dX1_bestForm_83 (by decide) ?_
            refine sx_kill 8 ?_
            refine sx_kill 9 ?_
            exact ihh1 _ _ _ _ _ ⟨Ih12, by omega⟩ (by exact sy_dec (by omega) (by omega))
          ·
            refine sx_iload dX1_bestForm_68 rfl ?_
            refine sx_istore dX1_bestForm_70 (by decide) ?_
            refine sx_iload dX1_bestForm_72 rfl ?_
            refine sx_istore dX1_bestForm_74 (by decide) ?_
            refine sx_iload dX1_bestForm_76 rfl ?_
            refine sx_istore dX1_bestForm_78 (by decide) ?_
            refine sx_iinc dX1_bestForm_80 (by decide) rfl ?_
            rw [sw_w_id (by omega) (by omega)]
            refine sx_goto (tgt := 14) dX1_bestForm_83 (by decide) ?_
            refine sx_kill 8 ?_
            refine sx_kill 9 ?_
            exact ihh1 _ _ _ _ _ ⟨Ih12, by omega⟩ (by exact sy_dec (by omega) (by omega))
  · exact ⟨hI, by omega⟩
set_option maxRecDepth 20000 in
set_option maxHeartbeats 4000000 in
theorem c_X1_bestToInline_1 {G : sw_G} (d : Nat) {h0 : sw_H} (hJ : cJ h0) (l : Int) (hw : 1 ≤ h0 1 0) : sw_E G NH SH (d + 3) mX1_bestToInline 0 [some (sw_r 177), some (sw_r 1), some (sw_i l), none, none, none, none, none] [] h0 (sw_Qi (fun z h' => cK prK h0 h')) := by
  have hI : cK prK h0 h0 := cK.refl hJ
  have rw : (0 : Int) ≤ h0 1 0 ∧ h0 1 0 ≤ 6 := hI.1.1 1 0
  refine sx_aload_n dX1_bestToInline_0 rfl ?_
  refine sx_getI (k := 0) cl_0 fl_X1_79 dX1_bestToInline_1 s_1 (by decide) rfl (by decide) ?_
  have r1 : (0 : Int) ≤ h0 1 0 ∧ h0 1 0 ≤ 6 := hI.1.1 1 0
  refine sx_iconst dX1_bestToInline_4 ⟨by decide, by decide⟩ ?_
  refine sx_isub dX1_bestToInline_5 ?_
  refine sy_topw (by omega) ?_
  refine sy_top (fun v2 ev2 => ?_)
  refine sx_istore_n dX1_bestToInline_6 (by decide) ?_
  refine sx_aload_n dX1_bestToInline_7 rfl ?_
  refine sx_aload_n dX1_bestToInline_8 rfl ?_
  refine sx_iload_n dX1_bestToInline_9 rfl ?_
  refine sx_iload_n dX1_bestToInline_10 rfl ?_
  refine sx_callVi lk_X1_72 cl_1 s_177 (by decide) dX1_bestToInline_11 (vs := [_, _, _]) rfl rfl (Nat.le_of_ble_eq_true rfl) (Nat.le_of_ble_eq_true rfl) rfl (c_X1_timeOf_1 _ hI.1 _ _ (by omega)) (fun x4 h3 ph3 => ?_)
  have Kh3 := ph3
  have Ih3 := hI.tr Kh3 sb_prK_prK
  refine sx_istore dX1_bestToInline_14 (by decide) ?_
  refine sx_iconst dX1_bestToInline_16 ⟨by decide, by decide⟩ ?_
  refine sx_istore dX1_bestToInline_17 (by decide) ?_
  refine sx_iconst dX1_bestToInline_19 ⟨by decide, by decide⟩ ?_
  refine sx_istore dX1_bestToInline_20 (by decide) ?_
  refine sx_loop3 (fun (h : sw_H) (a : Int) (b : Int) (i : Int) => (cK prK h0 h) ∧ (0 ≤ i)) (fun (h : sw_H) (a : Int) (b : Int) (i : Int) => (6 - i).toNat) (fun (h : sw_H) (a : Int) (b : Int) (i : Int) => sw_E G NH SH (d + 3) mX1_bestToInline 22 [some (sw_r 177), some (sw_r 1), some (sw_i l), some (sw_i v2), some (sw_i a), some (sw_i b), some (sw_i i), none] [] h (sw_Qi (fun z h' => cK prK h0 h'))) ?_ _ _ _ _ ?_
  · rintro h5 a_6 b_7 i_8 ⟨Ih5, j9⟩ ihh5
    try dsimp only at ihh5
    refine sx_iload dX1_bestToInline_22 rfl ?_
    refine sx_iload_n dX1_bestToInline_24 rfl ?_
    refine sx_icmp_gt (tgt := 72) dX1_bestToInline_25 (by decide) (fun c10 => ?_) (fun c10 => ?_)
    ·
      refine sx_iload dX1_bestToInline_72 rfl ?_
      refine sx_ireturn dX1_bestToInline_74 ?_
      exact ⟨_, rfl, Ih5⟩
    ·
      refine sx_iload_n dX1_bestToInline_28 rfl ?_
      refine sx_iload dX1_bestToInline_29 rfl ?_
      refine sx_ishr dX1_bestToInline_31 ?_
      refine sx_iconst dX1_bestToInline_32 ⟨by decide, by decide⟩ ?_
      refine sx_iand dX1_bestToInline_33 ?_
      refine sx_if_ne (tgt := 66) dX1_bestToInline_34 (by decide) (fun c11 => ?_) (fun c11 => ?_)
      ·
        refine sx_iinc dX1_bestToInline_66 (by decide) rfl ?_
        rw [sw_w_id (by omega) (by omega)]
        refine sx_goto (tgt := 22) dX1_bestToInline_69 (by decide) ?_
        exact ihh5 _ _ _ _ ⟨Ih5, by omega⟩ (by exact sy_dec (by omega) (by omega))
      ·
        refine sx_aload_n dX1_bestToInline_37 rfl ?_
        refine sx_aload_n dX1_bestToInline_38 rfl ?_
        refine sx_iload_n dX1_bestToInline_39 rfl ?_
        refine sx_iconst dX1_bestToInline_40 ⟨by decide, by decide⟩ ?_
        refine sx_iload dX1_bestToInline_41 rfl ?_
        refine sx_ishl dX1_bestToInline_43 ?_
        refine sx_ior dX1_bestToInline_44 ?_
        refine sx_iload_n dX1_bestToInline_45 rfl ?_
        refine sx_callVi lk_X1_72 cl_1 s_177 (by decide) dX1_bestToInline_46 (vs := [_, _, _]) rfl rfl (Nat.le_of_ble_eq_true rfl) (Nat.le_of_ble_eq_true rfl) rfl (c_X1_timeOf_1 _ Ih5.1 _ _ (by omega)) (fun x13 h12 ph12 => ?_)
        have Kh12 := ph12
        have Ih12 := Ih5.tr Kh12 sb_prK_prK
        refine sx_istore dX1_bestToInline_49 (by decide) ?_
        refine sx_iload dX1_bestToInline_51 rfl ?_
        refine sx_iload dX1_bestToInline_53 rfl ?_
        refine sx_icmp_ge (tgt := 66) dX1_bestToInline_55 (by decide) (fun c14 => ?_) (fun c14 => ?_)
        ·
          refine sx_iinc dX1_bestToInline_66 (by decide) rfl ?_
          rw [sw_w_id (by omega) (by omega)]
          refine sx_goto (tgt := 22) dX1_bestToInline_69 (by decide) ?_
          refine sx_kill 7 ?_
          exact ihh5 _ _ _ _ ⟨Ih12, by omega⟩ (by exact sy_dec (by omega) (by omega))
        ·
          refine sx_iload dX1_bestToInline_58 rfl ?_
          refine sx_istore dX1_bestToInline_60 (by decide) ?_
          refine sx_iload dX1_bestToInline_62 rfl ?_
          refine sx_istore dX1_bestToInline_64 (by decide) ?_
          refine sx_iinc dX1_bestToInline_66 (by decide) rfl ?_
          rw [sw_w_id (by omega) (by omega)]
          refine sx_goto (tgt := 22) dX1_bestToInline_69 (by decide) ?_
          refine sx_kill 7 ?_
          exact ihh5 _ _ _ _ ⟨Ih12, by omega⟩ (by exact sy_dec (by omega) (by omega))
  · exact ⟨Ih3, by omega⟩
set_option maxRecDepth 20000 in
set_option maxHeartbeats 4000000 in
theorem c_X1_openCalls_1 {G : sw_G} (d : Nat) {h0 : sw_H} (hJ : cJ h0) (w : Int) (hw : 0 ≤ w ∧ w < 6) : sw_E G NH SH (d + 1) mX1_openCalls 0 [some (sw_r 177), some (sw_r 1), some (sw_i w), none, none] [] h0 (sw_Qi (fun z h' => cK prK h0 h')) := by
  have hI : cK prK h0 h0 := cK.refl hJ
  refine sx_iconst dX1_openCalls_0 ⟨by decide, by decide⟩ ?_
  refine sx_istore_n dX1_openCalls_1 (by decide) ?_
  refine sx_loop1 (fun (h : sw_H) (i : Int) => (cK prK h0 h) ∧ (0 ≤ i)) (fun (h : sw_H) (i : Int) => (6 - i).toNat) (fun (h : sw_H) (i : Int) => sw_E G NH SH (d + 1) mX1_openCalls 2 [some (sw_r 177), some (sw_r 1), some (sw_i w), some (sw_i i), none] [] h (sw_Qi (fun z h' => cK prK h0 h'))) ?_ _ _ ?_
  · rintro h1 i_2 ⟨Ih1, j3⟩ ihh1
    try dsimp only at ihh1
    refine sx_iload_n dX1_openCalls_2 rfl ?_
    refine sx_iload_n dX1_openCalls_3 rfl ?_
    refine sx_icmp_gt (tgt := 87) dX1_openCalls_4 (by decide) (fun c4 => ?_) (fun c4 => ?_)
    ·
      refine sx_aload_n dX1_openCalls_87 rfl ?_
      refine sx_getS (k := 1) (t := 179) cl_1 fl_X1_15 dX1_openCalls_88 s_177 (by decide) rfl (by decide) ?_
      refine sx_iload_n dX1_openCalls_91 rfl ?_
      refine sx_iaload dX1_openCalls_92 s_179 (by decide) (by decide) ⟨by omega, by omega⟩ ?_
      refine sx_ireturn dX1_openCalls_93 ?_
      exact ⟨_, rfl, Ih1⟩
    ·
      refine sx_aload_n dX1_openCalls_7 rfl ?_
      refine sx_getS (k := 1) (t := 179) cl_1 fl_X1_15 dX1_openCalls_8 s_177 (by decide) rfl (by decide) ?_
      refine sx_iload_n dX1_openCalls_11 rfl ?_
      refine sx_iconst dX1_openCalls_12 ⟨by decide, by decide⟩ ?_
      refine sy_iastore dX1_openCalls_13 s_179 (by decide) (by decide) ⟨by omega, by omega⟩ (fun h5 eh5 => ?_)
      have Ih5 := Ih1.up eh5 trivial rfl rfl
      refine sx_aload_n dX1_openCalls_14 rfl ?_
      refine sx_getS (k := 9) (t := 6) cl_0 fl_X1_45 dX1_openCalls_15 s_1 (by decide) rfl (by decide) ?_
      refine sx_iload_n dX1_openCalls_18 rfl ?_
      refine sy_iaF (F := fun z => (0 : Int) ≤ z ∧ z ≤ 60) dX1_openCalls_19 s_6 (by decide) (by decide) ⟨by omega, by omega⟩ (Ih5.1.1 6 _) (fun r6 => ?_)
      refine sy_top (fun v7 ev7 => ?_)
      refine sx_istore dX1_openCalls_20 (by decide) ?_
      refine sx_loop1 (fun (h : sw_H) (j : Int) => (cK prK h0 h) ∧ (0 ≤ j)) (fun (h : sw_H) (j : Int) => (60 - j).toNat) (fun (h : sw_H) (j : Int) => sw_E G NH SH (d + 1) mX1_openCalls 22 [some (sw_r 177), some (sw_r 1), some (sw_i w), some (sw_i i_2), some (sw_i j)] [] h (sw_Qi (fun z h' => cK prK h0 h'))) ?_ _ _ ?_
      · rintro h8 j_9 ⟨Ih8, j10⟩ ihh8
        try dsimp only at ihh8
        refine sx_iload dX1_openCalls_22 rfl ?_
        refine sx_aload_n dX1_openCalls_24 rfl ?_
        refine sx_getS (k := 9) (t := 6) cl_0 fl_X1_45 dX1_openCalls_25 s_1 (by decide) rfl (by decide) ?_
        refine sx_iload_n dX1_openCalls_28 rfl ?_
        refine sx_iconst dX1_openCalls_29 ⟨by decide, by decide⟩ ?_
        refine sx_iadd dX1_openCalls_30 ?_
        refine sy_topw (by omega) ?_
        refine sy_iaF (F := fun z => (0 : Int) ≤ z ∧ z ≤ 60) dX1_openCalls_31 s_6 (by decide) (by decide) ⟨by omega, by omega⟩ (Ih8.1.1 6 _) (fun r11 => ?_)
        refine sx_icmp_ge (tgt := 81) dX1_openCalls_32 (by decide) (fun c12 => ?_) (fun c12 => ?_)
        ·
          refine sx_iinc dX1_openCalls_81 (by decide) rfl ?_
          rw [sw_w_id (by omega) (by omega)]
          refine sx_goto (tgt := 2) dX1_openCalls_84 (by decide) ?_
          refine sx_kill 4 ?_
          exact ihh1 _ _ ⟨Ih8, by omega⟩ (by exact sy_dec (by omega) (by omega))
        ·
          refine sx_aload_n dX1_openCalls_35 rfl ?_
          refine sx_getS (k := 5) (t := 2) cl_0 fl_X1_51 dX1_openCalls_36 s_1 (by decide) rfl (by decide) ?_
          refine sx_iload dX1_openCalls_39 rfl ?_
          refine sx_iaload dX1_openCalls_41 s_2 (by decide) (by decide) ⟨by omega, by omega⟩ ?_
          refine sx_iconst dX1_openCalls_42 ⟨by decide, by decide⟩ ?_
          refine sx_icmp_ne (tgt := 75) dX1_openCalls_43 (by decide) (fun c13 => ?_) (fun c13 => ?_)
          ·
            refine sx_iinc dX1_openCalls_75 (by decide) rfl ?_
            rw [sw_w_id (by omega) (by omega)]
            refine sx_goto (tgt := 22) dX1_openCalls_78 (by decide) ?_
            exact ihh8 _ _ ⟨Ih8, by omega⟩ (by exact sy_dec (by omega) (by omega))
          ·
            refine sx_aload_n dX1_openCalls_46 rfl ?_
            refine sx_getS (k := 1) (t := 179) cl_1 fl_X1_15 dX1_openCalls_47 s_177 (by decide) rfl (by decide) ?_
            refine sx_iload_n dX1_openCalls_50 rfl ?_
            refine sx_aload_n dX1_openCalls_51 rfl ?_
            refine sx_getS (k := 1) (t := 179) cl_1 fl_X1_15 dX1_openCalls_52 s_177 (by decide) rfl (by decide) ?_
            refine sx_iload_n dX1_openCalls_55 rfl ?_
            refine sx_iaload dX1_openCalls_56 s_179 (by decide) (by decide) ⟨by omega, by omega⟩ ?_
            refine sx_iconst dX1_openCalls_57 ⟨by decide, by decide⟩ ?_
            refine sx_aload_n dX1_openCalls_58 rfl ?_
            refine sx_getS (k := 1) (t := 179) cl_1 fl_X1_15 dX1_openCalls_59 s_177 (by decide) rfl (by decide) ?_
            refine sx_aload_n dX1_openCalls_62 rfl ?_
            refine sx_getS (k := 6) (t := 3) cl_0 fl_X1_48 dX1_openCalls_63 s_1 (by decide) rfl (by decide) ?_
            refine sx_iload dX1_openCalls_66 rfl ?_
            refine sx_iaload dX1_openCalls_68 s_3 (by decide) (by decide) ⟨by omega, by omega⟩ ?_
            have r1 := R1at1 Ih8.1 (j_9).toNat
            refine sx_iaload dX1_openCalls_69 s_179 (by decide) (by decide) ⟨by omega, by omega⟩ ?_
            refine sx_iadd dX1_openCalls_70 ?_
            refine sx_max lm_X1_54 lw_max dX1_openCalls_71 (Nat.le_of_ble_eq_true rfl) ?_
            refine sy_max (fun m14 em14 fm14 gm14 => ?_)
            refine sy_iastore dX1_openCalls_74 s_179 (by decide) (by decide) ⟨by omega, by omega⟩ (fun h15 eh15 => ?_)
            have Ih15 := Ih8.up eh15 trivial rfl rfl
            refine sx_iinc dX1_openCalls_75 (by decide) rfl ?_
            rw [sw_w_id (by omega) (by omega)]
            refine sx_goto (tgt := 22) dX1_openCalls_78 (by decide) ?_
            exact ihh8 _ _ ⟨Ih15, by omega⟩ (by exact sy_dec (by omega) (by omega))
      · exact ⟨Ih5, by omega⟩
  · exact ⟨hI, by omega⟩
set_option maxRecDepth 20000 in
set_option maxHeartbeats 4000000 in
theorem c_X1_priceByForm_13 {G : sw_G} (d : Nat) {h0 : sw_H} (hJ : cJ h0) (f : Int) (hf : 0 ≤ f ∧ f ≤ 2) : sw_E G NH SH (d + 1) mX1_priceByForm 0 [some (sw_r 177), some (sw_r 13), some (sw_i f)] [] h0 (sw_Qv (fun h' => cK prK h0 h')) := by
  have hI : cK prK h0 h0 := cK.refl hJ
  refine sx_aload_n dX1_priceByForm_0 rfl ?_
  refine sx_getS (k := 15) (t := 24) cl_0 fl_X1_24 dX1_priceByForm_1 s_13 (by decide) rfl (by decide) ?_
  refine sx_iload_n dX1_priceByForm_4 rfl ?_
  refine sx_bipush dX1_priceByForm_5 ⟨by decide, by decide, by decide⟩ ?_
  refine sx_imul dX1_priceByForm_7 ?_
  refine sy_topw (by omega) ?_
  refine sx_aload_n dX1_priceByForm_8 rfl ?_
  refine sx_getS (k := 0) (t := 178) cl_1 fl_X1_9 dX1_priceByForm_9 s_177 (by decide) rfl (by decide) ?_
  refine sx_iconst dX1_priceByForm_12 ⟨by decide, by decide⟩ ?_
  refine sx_bipush dX1_priceByForm_13 ⟨by decide, by decide, by decide⟩ ?_
  refine sx_copy lc_X1_29 lw_copy dX1_priceByForm_15 s_24 (by decide) s_178 (by decide) (by decide) (by decide) ⟨by omega, by omega, by omega⟩ ⟨by omega, by omega⟩ (Nat.le_of_ble_eq_true rfl) (by decide) (fun h1 kh1 vh1 => ?_)
  have Ih1 := hI.upA kh1 (fun _ => trivial) (fun _ => rfl) (fun _ => rfl)
  refine sx_ret dX1_priceByForm_18 ?_
  exact ⟨rfl, Ih1⟩
set_option maxRecDepth 20000 in
set_option maxHeartbeats 4000000 in
theorem c_X1_timeAlone_13 {G : sw_G} (d : Nat) {h0 : sw_H} (hJ : cJ h0) (l w : Int) (hw : 0 ≤ w ∧ w < 6) : sw_E G NH SH (d + 1) mX1_timeAlone 0 [some (sw_r 177), some (sw_r 13), some (sw_i l), some (sw_i w), none, none, none, none] [] h0 (sw_Qi (fun z h' => cK prK h0 h')) := by
  have hI : cK prK h0 h0 := cK.refl hJ
  refine sx_iconst dX1_timeAlone_0 ⟨by decide, by decide⟩ ?_
  refine sx_istore dX1_timeAlone_1 (by decide) ?_
  refine sx_iconst dX1_timeAlone_3 ⟨by decide, by decide⟩ ?_
  refine sx_istore dX1_timeAlone_4 (by decide) ?_
  refine sx_aload_n dX1_timeAlone_6 rfl ?_
  refine sx_getS (k := 9) (t := 18) cl_0 fl_X1_45 dX1_timeAlone_7 s_13 (by decide) rfl (by decide) ?_
  refine sx_iload_n dX1_timeAlone_10 rfl ?_
  refine sy_iaF (F := fun z => (0 : Int) ≤ z ∧ z ≤ 60) dX1_timeAlone_11 s_18 (by decide) (by decide) ⟨by omega, by omega⟩ (hI.1.1 18 _) (fun r1 => ?_)
  refine sy_top (fun v2 ev2 => ?_)
  refine sx_istore dX1_timeAlone_12 (by decide) ?_
  refine sx_loop3 (fun (h : sw_H) (s : Int) (p : Int) (i : Int) => (cK prK h0 h) ∧ (0 ≤ i) ∧ (0 ≤ p) ∧ (p ≤ 4)) (fun (h : sw_H) (s : Int) (p : Int) (i : Int) => (60 - i).toNat) (fun (h : sw_H) (s : Int) (p : Int) (i : Int) => sw_E G NH SH (d + 1) mX1_timeAlone 14 [some (sw_r 177), some (sw_r 13), some (sw_i l), some (sw_i w), some (sw_i s), some (sw_i p), some (sw_i i), none] [] h (sw_Qi (fun z h' => cK prK h0 h'))) ?_ _ _ _ _ ?_
  · rintro h3 s_4 p_5 i_6 ⟨Ih3, j7, j8, j9⟩ ihh3
    try dsimp only at ihh3
    refine sx_iload dX1_timeAlone_14 rfl ?_
    refine sx_aload_n dX1_timeAlone_16 rfl ?_
    refine sx_getS (k := 9) (t := 18) cl_0 fl_X1_45 dX1_timeAlone_17 s_13 (by decide) rfl (by decide) ?_
    refine sx_iload_n dX1_timeAlone_20 rfl ?_
    refine sx_iconst dX1_timeAlone_21 ⟨by decide, by decide⟩ ?_
    refine sx_iadd dX1_timeAlone_22 ?_
    refine sy_topw (by omega) ?_
    refine sy_iaF (F := fun z => (0 : Int) ≤ z ∧ z ≤ 60) dX1_timeAlone_23 s_18 (by decide) (by decide) ⟨by omega, by omega⟩ (Ih3.1.1 18 _) (fun r10 => ?_)
    refine sx_icmp_ge (tgt := 290) dX1_timeAlone_24 (by decide) (fun c11 => ?_) (fun c11 => ?_)
    ·
      refine sx_iload dX1_timeAlone_290 rfl ?_
      refine sx_ireturn dX1_timeAlone_292 ?_
      exact ⟨_, rfl, Ih3⟩
    ·
      refine sx_aload_n dX1_timeAlone_27 rfl ?_
      refine sx_getS (k := 6) (t := 15) cl_0 fl_X1_48 dX1_timeAlone_28 s_13 (by decide) rfl (by decide) ?_
      refine sx_iload dX1_timeAlone_31 rfl ?_
      refine sx_iaload dX1_timeAlone_33 s_15 (by decide) (by decide) ⟨by omega, by omega⟩ ?_
      refine sy_top (fun v12 ev12 => ?_)
      refine sx_istore dX1_timeAlone_34 (by decide) ?_
      refine sx_aload_n dX1_timeAlone_36 rfl ?_
      refine sx_getS (k := 5) (t := 14) cl_0 fl_X1_51 dX1_timeAlone_37 s_13 (by decide) rfl (by decide) ?_
      refine sx_iload dX1_timeAlone_40 rfl ?_
      refine sx_iaload dX1_timeAlone_42 s_14 (by decide) (by decide) ⟨by omega, by omega⟩ ?_
      have r1 := R1at13 Ih3.1 (i_6).toNat
      refine sx_tsw (dt := 253) (ts := [88, 103, 118, 253, 154, 169, 253, 212]) dX1_timeAlone_43 (by decide) (by decide) (by decide) (fun c13 => ?_) (And.intro (fun c13 => ?_) (And.intro (fun c13 => ?_) (And.intro (fun c13 => ?_) (And.intro (fun c13 => ?_) (And.intro (fun c13 => ?_) (And.intro (fun c13 => ?_) (And.intro (fun c13 => ?_) (And.intro (fun c13 => ?_) trivial))))))))
      ·
        refine sx_iconst dX1_timeAlone_253 ⟨by decide, by decide⟩ ?_
        refine sx_iload dX1_timeAlone_254 rfl ?_
        refine sx_iconst dX1_timeAlone_256 ⟨by decide, by decide⟩ ?_
        refine sx_iadd dX1_timeAlone_257 ?_
        refine sy_topw (by omega) ?_
        refine sx_min lm_X1_60 lw_min dX1_timeAlone_258 (Nat.le_of_ble_eq_true rfl) ?_
        refine sy_min (fun m14 em14 fm14 gm14 => ?_)
        refine sy_top (fun v15 ev15 => ?_)
        refine sx_istore dX1_timeAlone_261 (by decide) ?_
        refine sx_aload_n dX1_timeAlone_263 rfl ?_
        refine sx_getS (k := 2) (t := 180) cl_1 fl_X1_18 dX1_timeAlone_264 s_177 (by decide) rfl (by decide) ?_
        refine sx_iload dX1_timeAlone_267 rfl ?_
        refine sx_iload dX1_timeAlone_269 rfl ?_
        refine sy_iastore dX1_timeAlone_271 s_180 (by decide) (by decide) ⟨by omega, by omega⟩ (fun h16 eh16 => ?_)
        have Ih16 := Ih3.up eh16 trivial rfl rfl
        refine sx_aload_n dX1_timeAlone_272 rfl ?_
        refine sx_getS (k := 3) (t := 181) cl_1 fl_X1_21 dX1_timeAlone_273 s_177 (by decide) rfl (by decide) ?_
        refine sx_iload dX1_timeAlone_276 rfl ?_
        refine sx_iload dX1_timeAlone_278 rfl ?_
        refine sy_iastore dX1_timeAlone_280 s_181 (by decide) (by decide) ⟨by omega, by omega⟩ (fun h17 eh17 => ?_)
        have Ih17 := Ih16.up eh17 trivial rfl rfl
        refine sx_iconst dX1_timeAlone_281 ⟨by decide, by decide⟩ ?_
        refine sx_istore dX1_timeAlone_282 (by decide) ?_
        refine sx_iinc dX1_timeAlone_284 (by decide) rfl ?_
        rw [sw_w_id (by omega) (by omega)]
        refine sx_goto (tgt := 14) dX1_timeAlone_287 (by decide) ?_
        refine sx_kill 7 ?_
        exact ihh3 _ _ _ _ ⟨Ih17, by omega, by omega, by omega⟩ (by exact sy_dec (by omega) (by omega))
      ·
        refine sx_iload dX1_timeAlone_88 rfl ?_
        refine sx_aload_n dX1_timeAlone_90 rfl ?_
        refine sx_getS (k := 0) (t := 178) cl_1 fl_X1_9 dX1_timeAlone_91 s_177 (by decide) rfl (by decide) ?_
        refine sx_iload dX1_timeAlone_94 rfl ?_
        refine sx_iaload dX1_timeAlone_96 s_178 (by decide) (by decide) ⟨by omega, by omega⟩ ?_
        refine sx_iadd dX1_timeAlone_97 ?_
        refine sy_top (fun v18 ev18 => ?_)
        refine sx_istore dX1_timeAlone_98 (by decide) ?_
        refine sx_goto (tgt := 284) dX1_timeAlone_100 (by decide) ?_
        refine sx_iinc dX1_timeAlone_284 (by decide) rfl ?_
        rw [sw_w_id (by omega) (by omega)]
        refine sx_goto (tgt := 14) dX1_timeAlone_287 (by decide) ?_
        refine sx_kill 7 ?_
        exact ihh3 _ _ _ _ ⟨Ih3, by omega, by omega, by omega⟩ (by exact sy_dec (by omega) (by omega))
      ·
        refine sx_iload dX1_timeAlone_103 rfl ?_
        refine sx_aload_n dX1_timeAlone_105 rfl ?_
        refine sx_getS (k := 0) (t := 178) cl_1 fl_X1_9 dX1_timeAlone_106 s_177 (by decide) rfl (by decide) ?_
        refine sx_bipush dX1_timeAlone_109 ⟨by decide, by decide, by decide⟩ ?_
        refine sx_iaload dX1_timeAlone_111 s_178 (by decide) (by decide) ⟨by omega, by omega⟩ ?_
        refine sx_iadd dX1_timeAlone_112 ?_
        refine sy_top (fun v19 ev19 => ?_)
        refine sx_istore dX1_timeAlone_113 (by decide) ?_
        refine sx_goto (tgt := 284) dX1_timeAlone_115 (by decide) ?_
        refine sx_iinc dX1_timeAlone_284 (by decide) rfl ?_
        rw [sw_w_id (by omega) (by omega)]
        refine sx_goto (tgt := 14) dX1_timeAlone_287 (by decide) ?_
        refine sx_kill 7 ?_
        exact ihh3 _ _ _ _ ⟨Ih3, by omega, by omega, by omega⟩ (by exact sy_dec (by omega) (by omega))
      ·
        refine sx_iload dX1_timeAlone_118 rfl ?_
        refine sx_aload_n dX1_timeAlone_120 rfl ?_
        refine sx_getS (k := 1) (t := 179) cl_1 fl_X1_15 dX1_timeAlone_121 s_177 (by decide) rfl (by decide) ?_
        refine sx_iload dX1_timeAlone_124 rfl ?_
        refine sx_iaload dX1_timeAlone_126 s_179 (by decide) (by decide) ⟨by omega, by omega⟩ ?_
        refine sx_iload_n dX1_timeAlone_127 rfl ?_
        refine sx_iload dX1_timeAlone_128 rfl ?_
        refine sx_ishr dX1_timeAlone_130 ?_
        refine sx_iconst dX1_timeAlone_131 ⟨by decide, by decide⟩ ?_
        refine sx_iand dX1_timeAlone_132 ?_
        refine sx_if_ne (tgt := 146) dX1_timeAlone_133 (by decide) (fun c20 => ?_) (fun c20 => ?_)
        ·
          refine sx_iconst dX1_timeAlone_146 ⟨by decide, by decide⟩ ?_
          refine sx_iadd dX1_timeAlone_147 ?_
          refine sx_iadd dX1_timeAlone_148 ?_
          refine sy_top (fun v21 ev21 => ?_)
          refine sx_istore dX1_timeAlone_149 (by decide) ?_
          refine sx_goto (tgt := 284) dX1_timeAlone_151 (by decide) ?_
          refine sx_iinc dX1_timeAlone_284 (by decide) rfl ?_
          rw [sw_w_id (by omega) (by omega)]
          refine sx_goto (tgt := 14) dX1_timeAlone_287 (by decide) ?_
          refine sx_kill 7 ?_
          exact ihh3 _ _ _ _ ⟨Ih3, by omega, by omega, by omega⟩ (by exact sy_dec (by omega) (by omega))
        ·
          refine sx_aload_n dX1_timeAlone_136 rfl ?_
          refine sx_getS (k := 0) (t := 178) cl_1 fl_X1_9 dX1_timeAlone_137 s_177 (by decide) rfl (by decide) ?_
          refine sx_bipush dX1_timeAlone_140 ⟨by decide, by decide, by decide⟩ ?_
          refine sx_iaload dX1_timeAlone_142 s_178 (by decide) (by decide) ⟨by omega, by omega⟩ ?_
          refine sx_goto (tgt := 147) dX1_timeAlone_143 (by decide) ?_
          refine sx_iadd dX1_timeAlone_147 ?_
          refine sx_iadd dX1_timeAlone_148 ?_
          refine sy_top (fun v22 ev22 => ?_)
          refine sx_istore dX1_timeAlone_149 (by decide) ?_
          refine sx_goto (tgt := 284) dX1_timeAlone_151 (by decide) ?_
          refine sx_iinc dX1_timeAlone_284 (by decide) rfl ?_
          rw [sw_w_id (by omega) (by omega)]
          refine sx_goto (tgt := 14) dX1_timeAlone_287 (by decide) ?_
          refine sx_kill 7 ?_
          exact ihh3 _ _ _ _ ⟨Ih3, by omega, by omega, by omega⟩ (by exact sy_dec (by omega) (by omega))
      ·
        refine sx_iconst dX1_timeAlone_253 ⟨by decide, by decide⟩ ?_
        refine sx_iload dX1_timeAlone_254 rfl ?_
        refine sx_iconst dX1_timeAlone_256 ⟨by decide, by decide⟩ ?_
        refine sx_iadd dX1_timeAlone_257 ?_
        refine sy_topw (by omega) ?_
        refine sx_min lm_X1_60 lw_min dX1_timeAlone_258 (Nat.le_of_ble_eq_true rfl) ?_
        refine sy_min (fun m23 em23 fm23 gm23 => ?_)
        refine sy_top (fun v24 ev24 => ?_)
        refine sx_istore dX1_timeAlone_261 (by decide) ?_
        refine sx_aload_n dX1_timeAlone_263 rfl ?_
        refine sx_getS (k := 2) (t := 180) cl_1 fl_X1_18 dX1_timeAlone_264 s_177 (by decide) rfl (by decide) ?_
        refine sx_iload dX1_timeAlone_267 rfl ?_
        refine sx_iload dX1_timeAlone_269 rfl ?_
        refine sy_iastore dX1_timeAlone_271 s_180 (by decide) (by decide) ⟨by omega, by omega⟩ (fun h25 eh25 => ?_)
        have Ih25 := Ih3.up eh25 trivial rfl rfl
        refine sx_aload_n dX1_timeAlone_272 rfl ?_
        refine sx_getS (k := 3) (t := 181) cl_1 fl_X1_21 dX1_timeAlone_273 s_177 (by decide) rfl (by decide) ?_
        refine sx_iload dX1_timeAlone_276 rfl ?_
        refine sx_iload dX1_timeAlone_278 rfl ?_
        refine sy_iastore dX1_timeAlone_280 s_181 (by decide) (by decide) ⟨by omega, by omega⟩ (fun h26 eh26 => ?_)
        have Ih26 := Ih25.up eh26 trivial rfl rfl
        refine sx_iconst dX1_timeAlone_281 ⟨by decide, by decide⟩ ?_
        refine sx_istore dX1_timeAlone_282 (by decide) ?_
        refine sx_iinc dX1_timeAlone_284 (by decide) rfl ?_
        rw [sw_w_id (by omega) (by omega)]
        refine sx_goto (tgt := 14) dX1_timeAlone_287 (by decide) ?_
        refine sx_kill 7 ?_
        exact ihh3 _ _ _ _ ⟨Ih26, by omega, by omega, by omega⟩ (by exact sy_dec (by omega) (by omega))
      ·
        refine sx_aload_n dX1_timeAlone_154 rfl ?_
        refine sx_getS (k := 3) (t := 181) cl_1 fl_X1_21 dX1_timeAlone_155 s_177 (by decide) rfl (by decide) ?_
        refine sx_iload dX1_timeAlone_158 rfl ?_
        refine sx_iload dX1_timeAlone_160 rfl ?_
        refine sy_iastore dX1_timeAlone_162 s_181 (by decide) (by decide) ⟨by omega, by omega⟩ (fun h27 eh27 => ?_)
        have Ih27 := Ih3.up eh27 trivial rfl rfl
        refine sx_iconst dX1_timeAlone_163 ⟨by decide, by decide⟩ ?_
        refine sx_istore dX1_timeAlone_164 (by decide) ?_
        refine sx_goto (tgt := 284) dX1_timeAlone_166 (by decide) ?_
        refine sx_iinc dX1_timeAlone_284 (by decide) rfl ?_
        rw [sw_w_id (by omega) (by omega)]
        refine sx_goto (tgt := 14) dX1_timeAlone_287 (by decide) ?_
        refine sx_kill 7 ?_
        exact ihh3 _ _ _ _ ⟨Ih27, by omega, by omega, by omega⟩ (by exact sy_dec (by omega) (by omega))
      ·
        refine sx_aload_n dX1_timeAlone_169 rfl ?_
        refine sx_getS (k := 2) (t := 180) cl_1 fl_X1_18 dX1_timeAlone_170 s_177 (by decide) rfl (by decide) ?_
        refine sx_iload dX1_timeAlone_173 rfl ?_
        refine sx_iaload dX1_timeAlone_175 s_180 (by decide) (by decide) ⟨by omega, by omega⟩ ?_
        refine sx_aload_n dX1_timeAlone_176 rfl ?_
        refine sx_getS (k := 0) (t := 178) cl_1 fl_X1_9 dX1_timeAlone_177 s_177 (by decide) rfl (by decide) ?_
        refine sx_bipush dX1_timeAlone_180 ⟨by decide, by decide, by decide⟩ ?_
        refine sx_iaload dX1_timeAlone_182 s_178 (by decide) (by decide) ⟨by omega, by omega⟩ ?_
        refine sx_iadd dX1_timeAlone_183 ?_
        refine sx_iload dX1_timeAlone_184 rfl ?_
        refine sx_aload_n dX1_timeAlone_186 rfl ?_
        refine sx_getS (k := 3) (t := 181) cl_1 fl_X1_21 dX1_timeAlone_187 s_177 (by decide) rfl (by decide) ?_
        refine sx_iload dX1_timeAlone_190 rfl ?_
        refine sx_iaload dX1_timeAlone_192 s_181 (by decide) (by decide) ⟨by omega, by omega⟩ ?_
        refine sx_max lm_X1_54 lw_max dX1_timeAlone_193 (Nat.le_of_ble_eq_true rfl) ?_
        refine sy_max (fun m28 em28 fm28 gm28 => ?_)
        refine sx_iadd dX1_timeAlone_196 ?_
        refine sy_top (fun v29 ev29 => ?_)
        refine sx_istore dX1_timeAlone_197 (by decide) ?_
        refine sx_iconst dX1_timeAlone_199 ⟨by decide, by decide⟩ ?_
        refine sx_iload dX1_timeAlone_200 rfl ?_
        refine sx_iconst dX1_timeAlone_202 ⟨by decide, by decide⟩ ?_
        refine sx_isub dX1_timeAlone_203 ?_
        refine sy_topw (by omega) ?_
        refine sx_max lm_X1_54 lw_max dX1_timeAlone_204 (Nat.le_of_ble_eq_true rfl) ?_
        refine sy_max (fun m30 em30 fm30 gm30 => ?_)
        refine sy_top (fun v31 ev31 => ?_)
        refine sx_istore dX1_timeAlone_207 (by decide) ?_
        refine sx_goto (tgt := 284) dX1_timeAlone_209 (by decide) ?_
        refine sx_iinc dX1_timeAlone_284 (by decide) rfl ?_
        rw [sw_w_id (by omega) (by omega)]
        refine sx_goto (tgt := 14) dX1_timeAlone_287 (by decide) ?_
        refine sx_kill 7 ?_
        exact ihh3 _ _ _ _ ⟨Ih3, by omega, by omega, by omega⟩ (by exact sy_dec (by omega) (by omega))
      ·
        refine sx_iconst dX1_timeAlone_253 ⟨by decide, by decide⟩ ?_
        refine sx_iload dX1_timeAlone_254 rfl ?_
        refine sx_iconst dX1_timeAlone_256 ⟨by decide, by decide⟩ ?_
        refine sx_iadd dX1_timeAlone_257 ?_
        refine sy_topw (by omega) ?_
        refine sx_min lm_X1_60 lw_min dX1_timeAlone_258 (Nat.le_of_ble_eq_true rfl) ?_
        refine sy_min (fun m32 em32 fm32 gm32 => ?_)
        refine sy_top (fun v33 ev33 => ?_)
        refine sx_istore dX1_timeAlone_261 (by decide) ?_
        refine sx_aload_n dX1_timeAlone_263 rfl ?_
        refine sx_getS (k := 2) (t := 180) cl_1 fl_X1_18 dX1_timeAlone_264 s_177 (by decide) rfl (by decide) ?_
        refine sx_iload dX1_timeAlone_267 rfl ?_
        refine sx_iload dX1_timeAlone_269 rfl ?_
        refine sy_iastore dX1_timeAlone_271 s_180 (by decide) (by decide) ⟨by omega, by omega⟩ (fun h34 eh34 => ?_)
        have Ih34 := Ih3.up eh34 trivial rfl rfl
        refine sx_aload_n dX1_timeAlone_272 rfl ?_
        refine sx_getS (k := 3) (t := 181) cl_1 fl_X1_21 dX1_timeAlone_273 s_177 (by decide) rfl (by decide) ?_
        refine sx_iload dX1_timeAlone_276 rfl ?_
        refine sx_iload dX1_timeAlone_278 rfl ?_
        refine sy_iastore dX1_timeAlone_280 s_181 (by decide) (by decide) ⟨by omega, by omega⟩ (fun h35 eh35 => ?_)
        have Ih35 := Ih34.up eh35 trivial rfl rfl
        refine sx_iconst dX1_timeAlone_281 ⟨by decide, by decide⟩ ?_
        refine sx_istore dX1_timeAlone_282 (by decide) ?_
        refine sx_iinc dX1_timeAlone_284 (by decide) rfl ?_
        rw [sw_w_id (by omega) (by omega)]
        refine sx_goto (tgt := 14) dX1_timeAlone_287 (by decide) ?_
        refine sx_kill 7 ?_
        exact ihh3 _ _ _ _ ⟨Ih35, by omega, by omega, by omega⟩ (by exact sy_dec (by omega) (by omega))
      ·
        refine sx_aload_n dX1_timeAlone_212 rfl ?_
        refine sx_getS (k := 2) (t := 180) cl_1 fl_X1_18 dX1_timeAlone_213 s_177 (by decide) rfl (by decide) ?_
        refine sx_iload dX1_timeAlone_216 rfl ?_
        refine sx_iaload dX1_timeAlone_218 s_180 (by decide) (by decide) ⟨by omega, by omega⟩ ?_
        refine sx_aload_n dX1_timeAlone_219 rfl ?_
        refine sx_getS (k := 3) (t := 181) cl_1 fl_X1_21 dX1_timeAlone_220 s_177 (by decide) rfl (by decide) ?_
        refine sx_iload dX1_timeAlone_223 rfl ?_
        refine sx_iaload dX1_timeAlone_225 s_181 (by decide) (by decide) ⟨by omega, by omega⟩ ?_
        refine sx_aload_n dX1_timeAlone_226 rfl ?_
        refine sx_getS (k := 0) (t := 178) cl_1 fl_X1_9 dX1_timeAlone_227 s_177 (by decide) rfl (by decide) ?_
        refine sx_bipush dX1_timeAlone_230 ⟨by decide, by decide, by decide⟩ ?_
        refine sx_iaload dX1_timeAlone_232 s_178 (by decide) (by decide) ⟨by omega, by omega⟩ ?_
        refine sx_iload dX1_timeAlone_233 rfl ?_
        refine sx_iadd dX1_timeAlone_235 ?_
        refine sx_imul dX1_timeAlone_236 ?_
        refine sx_iadd dX1_timeAlone_237 ?_
        refine sy_top (fun v36 ev36 => ?_)
        refine sx_istore dX1_timeAlone_238 (by decide) ?_
        refine sx_iconst dX1_timeAlone_240 ⟨by decide, by decide⟩ ?_
        refine sx_iload dX1_timeAlone_241 rfl ?_
        refine sx_iconst dX1_timeAlone_243 ⟨by decide, by decide⟩ ?_
        refine sx_isub dX1_timeAlone_244 ?_
        refine sy_topw (by omega) ?_
        refine sx_max lm_X1_54 lw_max dX1_timeAlone_245 (Nat.le_of_ble_eq_true rfl) ?_
        refine sy_max (fun m37 em37 fm37 gm37 => ?_)
        refine sy_top (fun v38 ev38 => ?_)
        refine sx_istore dX1_timeAlone_248 (by decide) ?_
        refine sx_goto (tgt := 284) dX1_timeAlone_250 (by decide) ?_
        refine sx_iinc dX1_timeAlone_284 (by decide) rfl ?_
        rw [sw_w_id (by omega) (by omega)]
        refine sx_goto (tgt := 14) dX1_timeAlone_287 (by decide) ?_
        refine sx_kill 7 ?_
        exact ihh3 _ _ _ _ ⟨Ih3, by omega, by omega, by omega⟩ (by exact sy_dec (by omega) (by omega))
  · exact ⟨hI, by omega, by omega, by omega⟩
set_option maxRecDepth 20000 in
set_option maxHeartbeats 4000000 in
theorem c_X1_timeOf_13 {G : sw_G} (d : Nat) {h0 : sw_H} (hJ : cJ h0) (l w : Int) (hw : 0 ≤ w ∧ w < 6) : sw_E G NH SH (d + 2) mX1_timeOf 0 [some (sw_r 177), some (sw_r 13), some (sw_i l), some (sw_i w), none] [] h0 (sw_Qi (fun z h' => cK prK h0 h')) := by
  have hI : cK prK h0 h0 := cK.refl hJ
  refine sx_iconst dX1_timeOf_0 ⟨by decide, by decide⟩ ?_
  refine sx_istore dX1_timeOf_1 (by decide) ?_
  refine sx_loop1 (fun (h : sw_H) (i : Int) => (cK prK h0 h) ∧ (0 ≤ i)) (fun (h : sw_H) (i : Int) => (6 - i).toNat) (fun (h : sw_H) (i : Int) => sw_E G NH SH (d + 2) mX1_timeOf 3 [some (sw_r 177), some (sw_r 13), some (sw_i l), some (sw_i w), some (sw_i i)] [] h (sw_Qi (fun z h' => cK prK h0 h'))) ?_ _ _ ?_
  · rintro h1 i_2 ⟨Ih1, j3⟩ ihh1
    try dsimp only at ihh1
    refine sx_iload dX1_timeOf_3 rfl ?_
    refine sx_iload_n dX1_timeOf_5 rfl ?_
    refine sx_icmp_gt (tgt := 30) dX1_timeOf_6 (by decide) (fun c4 => ?_) (fun c4 => ?_)
    ·
      refine sx_aload_n dX1_timeOf_30 rfl ?_
      refine sx_getS (k := 1) (t := 179) cl_1 fl_X1_15 dX1_timeOf_31 s_177 (by decide) rfl (by decide) ?_
      refine sx_iload_n dX1_timeOf_34 rfl ?_
      refine sx_iaload dX1_timeOf_35 s_179 (by decide) (by decide) ⟨by omega, by omega⟩ ?_
      refine sx_ireturn dX1_timeOf_36 ?_
      exact ⟨_, rfl, Ih1⟩
    ·
      refine sx_aload_n dX1_timeOf_9 rfl ?_
      refine sx_getS (k := 1) (t := 179) cl_1 fl_X1_15 dX1_timeOf_10 s_177 (by decide) rfl (by decide) ?_
      refine sx_iload dX1_timeOf_13 rfl ?_
      refine sx_aload_n dX1_timeOf_15 rfl ?_
      refine sx_aload_n dX1_timeOf_16 rfl ?_
      refine sx_iload_n dX1_timeOf_17 rfl ?_
      refine sx_iload dX1_timeOf_18 rfl ?_
      refine sx_callVi lk_X1_41 cl_1 s_177 (by decide) dX1_timeOf_20 (vs := [_, _, _]) rfl rfl (Nat.le_of_ble_eq_true rfl) (Nat.le_of_ble_eq_true rfl) rfl (c_X1_timeAlone_13 _ Ih1.1 _ _ (by omega)) (fun x6 h5 ph5 => ?_)
      have Kh5 := ph5
      have Ih5 := Ih1.tr Kh5 sb_prK_prK
      refine sy_iastore dX1_timeOf_23 s_179 (by decide) (by decide) ⟨by omega, by omega⟩ (fun h7 eh7 => ?_)
      have Ih7 := Ih5.up eh7 trivial rfl rfl
      refine sx_iinc dX1_timeOf_24 (by decide) rfl ?_
      rw [sw_w_id (by omega) (by omega)]
      refine sx_goto (tgt := 3) dX1_timeOf_27 (by decide) ?_
      exact ihh1 _ _ ⟨Ih7, by omega⟩ (by exact sy_dec (by omega) (by omega))
  · exact ⟨hI, by omega⟩
set_option maxRecDepth 20000 in
set_option maxHeartbeats 4000000 in
theorem c_X1_roomOf_13 {G : sw_G} (d : Nat) {h0 : sw_H} (hJ : cJ h0) (l w f : Int) (hw : 0 ≤ w ∧ w < 6) : sw_E G NH SH (d + 1) mX1_roomOf 0 [some (sw_r 177), some (sw_r 13), some (sw_i l), some (sw_i w), some (sw_i f), none, none, none] [] h0 (sw_Qi (fun z h' => cK prK h0 h')) := by
  have hI : cK prK h0 h0 := cK.refl hJ
  refine sx_iconst dX1_roomOf_0 ⟨by decide, by decide⟩ ?_
  refine sx_istore dX1_roomOf_1 (by decide) ?_
  refine sx_loop1 (fun (h : sw_H) (i : Int) => (cK prK h0 h) ∧ (0 ≤ i)) (fun (h : sw_H) (i : Int) => (6 - i).toNat) (fun (h : sw_H) (i : Int) => sw_E G NH SH (d + 1) mX1_roomOf 3 [some (sw_r 177), some (sw_r 13), some (sw_i l), some (sw_i w), some (sw_i f), some (sw_i i), none, none] [] h (sw_Qi (fun z h' => cK prK h0 h'))) ?_ _ _ ?_
  · rintro h1 i_2 ⟨Ih1, j3⟩ ihh1
    try dsimp only at ihh1
    refine sx_iload dX1_roomOf_3 rfl ?_
    refine sx_iload_n dX1_roomOf_5 rfl ?_
    refine sx_icmp_gt (tgt := 82) dX1_roomOf_6 (by decide) (fun c4 => ?_) (fun c4 => ?_)
    ·
      refine sx_iconst dX1_roomOf_82 ⟨by decide, by decide⟩ ?_
      refine sx_iload dX1_roomOf_83 rfl ?_
      refine sx_iadd dX1_roomOf_85 ?_
      refine sx_aload_n dX1_roomOf_86 rfl ?_
      refine sx_getS (k := 1) (t := 179) cl_1 fl_X1_15 dX1_roomOf_87 s_177 (by decide) rfl (by decide) ?_
      refine sx_iload_n dX1_roomOf_90 rfl ?_
      refine sx_iaload dX1_roomOf_91 s_179 (by decide) (by decide) ⟨by omega, by omega⟩ ?_
      refine sx_iadd dX1_roomOf_92 ?_
      refine sx_ireturn dX1_roomOf_93 ?_
      exact ⟨_, rfl, Ih1⟩
    ·
      refine sx_iconst dX1_roomOf_9 ⟨by decide, by decide⟩ ?_
      refine sx_istore dX1_roomOf_10 (by decide) ?_
      refine sx_aload_n dX1_roomOf_12 rfl ?_
      refine sx_getS (k := 9) (t := 18) cl_0 fl_X1_45 dX1_roomOf_13 s_13 (by decide) rfl (by decide) ?_
      refine sx_iload dX1_roomOf_16 rfl ?_
      refine sy_iaF (F := fun z => (0 : Int) ≤ z ∧ z ≤ 60) dX1_roomOf_18 s_18 (by decide) (by decide) ⟨by omega, by omega⟩ (Ih1.1.1 18 _) (fun r5 => ?_)
      refine sy_top (fun v6 ev6 => ?_)
      refine sx_istore dX1_roomOf_19 (by decide) ?_
      refine sx_loop2 (fun (h : sw_H) (s : Int) (j : Int) => (cK prK h0 h) ∧ (0 ≤ j)) (fun (h : sw_H) (s : Int) (j : Int) => (60 - j).toNat) (fun (h : sw_H) (s : Int) (j : Int) => sw_E G NH SH (d + 1) mX1_roomOf 21 [some (sw_r 177), some (sw_r 13), some (sw_i l), some (sw_i w), some (sw_i f), some (sw_i i_2), some (sw_i s), some (sw_i j)] [] h (sw_Qi (fun z h' => cK prK h0 h'))) ?_ _ _ _ ?_
      · rintro h7 s_8 j_9 ⟨Ih7, j10⟩ ihh7
        try dsimp only at ihh7
        refine sx_iload dX1_roomOf_21 rfl ?_
        refine sx_aload_n dX1_roomOf_23 rfl ?_
        refine sx_getS (k := 9) (t := 18) cl_0 fl_X1_45 dX1_roomOf_24 s_13 (by decide) rfl (by decide) ?_
        refine sx_iload dX1_roomOf_27 rfl ?_
        refine sx_iconst dX1_roomOf_29 ⟨by decide, by decide⟩ ?_
        refine sx_iadd dX1_roomOf_30 ?_
        refine sy_topw (by omega) ?_
        refine sy_iaF (F := fun z => (0 : Int) ≤ z ∧ z ≤ 60) dX1_roomOf_31 s_18 (by decide) (by decide) ⟨by omega, by omega⟩ (Ih7.1.1 18 _) (fun r11 => ?_)
        refine sx_icmp_ge (tgt := 67) dX1_roomOf_32 (by decide) (fun c12 => ?_) (fun c12 => ?_)
        ·
          refine sx_aload_n dX1_roomOf_67 rfl ?_
          refine sx_getS (k := 1) (t := 179) cl_1 fl_X1_15 dX1_roomOf_68 s_177 (by decide) rfl (by decide) ?_
          refine sx_iload dX1_roomOf_71 rfl ?_
          refine sx_iload dX1_roomOf_73 rfl ?_
          refine sy_iastore dX1_roomOf_75 s_179 (by decide) (by decide) ⟨by omega, by omega⟩ (fun h13 eh13 => ?_)
          have Ih13 := Ih7.up eh13 trivial rfl rfl
          refine sx_iinc dX1_roomOf_76 (by decide) rfl ?_
          rw [sw_w_id (by omega) (by omega)]
          refine sx_goto (tgt := 3) dX1_roomOf_79 (by decide) ?_
          refine sx_kill 6 ?_
          refine sx_kill 7 ?_
          exact ihh1 _ _ ⟨Ih13, by omega⟩ (by exact sy_dec (by omega) (by omega))
        ·
          refine sx_iload dX1_roomOf_35 rfl ?_
          refine sx_aload_n dX1_roomOf_37 rfl ?_
          refine sx_aload_n dX1_roomOf_38 rfl ?_
          refine sx_getS (k := 5) (t := 14) cl_0 fl_X1_51 dX1_roomOf_39 s_13 (by decide) rfl (by decide) ?_
          refine sx_iload dX1_roomOf_42 rfl ?_
          refine sx_iaload dX1_roomOf_44 s_14 (by decide) (by decide) ⟨by omega, by omega⟩ ?_
          refine sx_aload_n dX1_roomOf_45 rfl ?_
          refine sx_getS (k := 6) (t := 15) cl_0 fl_X1_48 dX1_roomOf_46 s_13 (by decide) rfl (by decide) ?_
          refine sx_iload dX1_roomOf_49 rfl ?_
          refine sx_iaload dX1_roomOf_51 s_15 (by decide) (by decide) ⟨by omega, by omega⟩ ?_
          refine sx_iload_n dX1_roomOf_52 rfl ?_
          refine sx_iload dX1_roomOf_53 rfl ?_
          have r1 := R1at13 Ih7.1 (j_9).toNat
          refine sx_callVi lk_X1_63 cl_1 s_177 (by decide) dX1_roomOf_55 (vs := [_, _, _, _]) rfl rfl (Nat.le_of_ble_eq_true rfl) (Nat.le_of_ble_eq_true rfl) rfl (c_X1_roomOfItem _ Ih7.1 _ _ _ _ (fun q => by omega)) (fun x15 h14 ph14 => ?_)
          subst ph14
          refine sx_iadd dX1_roomOf_58 ?_
          refine sy_top (fun v16 ev16 => ?_)
          refine sx_istore dX1_roomOf_59 (by decide) ?_
          refine sx_iinc dX1_roomOf_61 (by decide) rfl ?_
          rw [sw_w_id (by omega) (by omega)]
          refine sx_goto (tgt := 21) dX1_roomOf_64 (by decide) ?_
          exact ihh7 _ _ _ ⟨Ih7, by omega⟩ (by exact sy_dec (by omega) (by omega))
      · exact ⟨Ih1, by omega⟩
  · exact ⟨hI, by omega⟩
set_option maxRecDepth 20000 in
set_option maxHeartbeats 4000000 in
theorem c_X1_bestForm_13 {G : sw_G} (d : Nat) {h0 : sw_H} (hJ : cJ h0) (l w : Int) (hw : 0 ≤ w ∧ w < 6) : sw_E G NH SH (d + 3) mX1_bestForm 0 [some (sw_r 177), some (sw_r 13), some (sw_i l), some (sw_i w), none, none, none, none, none, none] [] h0 (sw_Qi (fun z h' => cK prK h0 h')) := by
  have hI : cK prK h0 h0 := cK.refl hJ
  refine sx_iconst dX1_bestForm_0 ⟨by decide, by decide⟩ ?_
  refine sx_istore dX1_bestForm_1 (by decide) ?_
  refine sx_ldc kc_X1_67 ⟨by decide, by decide⟩ dX1_bestForm_3 ?_
  refine sx_istore dX1_bestForm_5 (by decide) ?_
  refine sx_ldc kc_X1_67 ⟨by decide, by decide⟩ dX1_bestForm_7 ?_
  refine sx_istore dX1_bestForm_9 (by decide) ?_
  refine sx_iconst dX1_bestForm_11 ⟨by decide, by decide⟩ ?_
  refine sx_istore dX1_bestForm_12 (by decide) ?_
  refine sx_loop4 (fun (h : sw_H) (a : Int) (b : Int) (e : Int) (f : Int) => (cK prK h0 h) ∧ (0 ≤ f)) (fun (h : sw_H) (a : Int) (b : Int) (e : Int) (f : Int) => (3 - f).toNat) (fun (h : sw_H) (a : Int) (b : Int) (e : Int) (f : Int) => sw_E G NH SH (d + 3) mX1_bestForm 14 [some (sw_r 177), some (sw_r 13), some (sw_i l), some (sw_i w), some (sw_i a), some (sw_i b), some (sw_i e), some (sw_i f), none, none] [] h (sw_Qi (fun z h' => cK prK h0 h'))) ?_ _ _ _ _ _ ?_
  · rintro h1 a_2 b_3 e_4 f_5 ⟨Ih1, j6⟩ ihh1
    try dsimp only at ihh1
    refine sx_iload dX1_bestForm_14 rfl ?_
    refine sx_iconst dX1_bestForm_16 ⟨by decide, by decide⟩ ?_
    refine sx_icmp_ge (tgt := 86) dX1_bestForm_17 (by decide) (fun c7 => ?_) (fun c7 => ?_)
    ·
      refine sx_iload dX1_bestForm_86 rfl ?_
      refine sx_ireturn dX1_bestForm_88 ?_
      exact ⟨_, rfl, Ih1⟩
    ·
      refine sx_aload_n dX1_bestForm_20 rfl ?_
      refine sx_aload_n dX1_bestForm_21 rfl ?_
      refine sx_iload dX1_bestForm_22 rfl ?_
      refine sx_callVv lk_X1_68 cl_1 s_177 (by decide) dX1_bestForm_24 (vs := [_, _]) rfl rfl (Nat.le_of_ble_eq_true rfl) (Nat.le_of_ble_eq_true rfl) rfl (c_X1_priceByForm_13 _ Ih1.1 _ (by omega)) (fun h8 ph8 => ?_)
      have Kh8 := ph8
      have Ih8 := Ih1.tr Kh8 sb_prK_prK
      refine sx_aload_n dX1_bestForm_27 rfl ?_
      refine sx_aload_n dX1_bestForm_28 rfl ?_
      refine sx_iload_n dX1_bestForm_29 rfl ?_
      refine sx_iload_n dX1_bestForm_30 rfl ?_
      refine sx_callVi lk_X1_72 cl_1 s_177 (by decide) dX1_bestForm_31 (vs := [_, _, _]) rfl rfl (Nat.le_of_ble_eq_true rfl) (Nat.le_of_ble_eq_true rfl) rfl (c_X1_timeOf_13 _ Ih8.1 _ _ (by omega)) (fun x11 h10 ph10 => ?_)
      have Kh10 := ph10
      have Ih10 := Ih8.tr Kh10 sb_prK_prK
      refine sx_istore dX1_bestForm_34 (by decide) ?_
      refine sx_aload_n dX1_bestForm_36 rfl ?_
      refine sx_aload_n dX1_bestForm_37 rfl ?_
      refine sx_iload_n dX1_bestForm_38 rfl ?_
      refine sx_iload_n dX1_bestForm_39 rfl ?_
      refine sx_iload dX1_bestForm_40 rfl ?_
      refine sx_callVi lk_X1_75 cl_1 s_177 (by decide) dX1_bestForm_42 (vs := [_, _, _, _]) rfl rfl (Nat.le_of_ble_eq_true rfl) (Nat.le_of_ble_eq_true rfl) rfl (c_X1_roomOf_13 _ Ih10.1 _ _ _ (by omega)) (fun x13 h12 ph12 => ?_)
      have Kh12 := ph12
      have Ih12 := Ih10.tr Kh12 sb_prK_prK
      refine sx_istore dX1_bestForm_45 (by decide) ?_
      refine sx_iload dX1_bestForm_47 rfl ?_
      refine sx_iload dX1_bestForm_49 rfl ?_
      refine sx_icmp_lt (tgt := 68) dX1_bestForm_51 (by decide) (fun c14 => ?_) (fun c14 => ?_)
      ·
        refine sx_iload dX1_bestForm_68 rfl ?_
        refine sx_istore dX1_bestForm_70 (by decide) ?_
        refine sx_iload dX1_bestForm_72 rfl ?_
        refine sx_istore dX1_bestForm_74 (by decide) ?_
        refine sx_iload dX1_bestForm_76 rfl ?_
        refine sx_istore dX1_bestForm_78 (by decide) ?_
        refine sx_iinc dX1_bestForm_80 (by decide) rfl ?_
        rw [sw_w_id (by omega) (by omega)]
        refine sx_goto (tgt := 14) dX1_bestForm_83 (by decide) ?_
        refine sx_kill 8 ?_
        refine sx_kill 9 ?_
        exact ihh1 _ _ _ _ _ ⟨Ih12, by omega⟩ (by exact sy_dec (by omega) (by omega))
      ·
        refine sx_iload dX1_bestForm_54 rfl ?_
        refine sx_iload dX1_bestForm_56 rfl ?_
        refine sx_icmp_ne (tgt := 80) dX1_bestForm_58 (by decide) (fun c15 => ?_) (fun c15 => ?_)
        ·
          refine sx_iinc dX1_bestForm_80 (by decide) rfl ?_
          rw [sw_w_id (by omega) (by omega)]
          refine sx_goto (tgt := 14) dX1_bestForm_83 (by decide) ?_
          refine sx_kill 8 ?_
          refine sx_kill 9 ?_
          exact ihh1 _ _ _ _ _ ⟨Ih12, by omega⟩ (by exact sy_dec (by omega) (by omega))
        ·
          refine sx_iload dX1_bestForm_61 rfl ?_
          refine sx_iload dX1_bestForm_63 rfl ?_
          refine sx_icmp_ge (tgt := 80) dX1_bestForm_65 (by decide) (fun c16 => ?_) (fun c16 => ?_)
          ·
            refine sx_iinc dX1_bestForm_80 (by decide) rfl ?_
            rw [sw_w_id (by omega) (by omega)]
            refine sx_goto (tgt := 14) dX1_bestForm_83 (by decide) ?_
            refine sx_kill 8 ?_
            refine sx_kill 9 ?_
            exact ihh1 _ _ _ _ _ ⟨Ih12, by omega⟩ (by exact sy_dec (by omega) (by omega))
          ·
            refine sx_iload dX1_bestForm_68 rfl ?_
            refine sx_istore dX1_bestForm_70 (by decide) ?_
            refine sx_iload dX1_bestForm_72 rfl ?_
            refine sx_istore dX1_bestForm_74 (by decide) ?_
            refine sx_iload dX1_bestForm_76 rfl ?_
            refine sx_istore dX1_bestForm_78 (by decide) ?_
            refine sx_iinc dX1_bestForm_80 (by decide) rfl ?_
            rw [sw_w_id (by omega) (by omega)]
            refine sx_goto (tgt := 14) dX1_bestForm_83 (by decide) ?_
            refine sx_kill 8 ?_
            refine sx_kill 9 ?_
            exact ihh1 _ _ _ _ _ ⟨Ih12, by omega⟩ (by exact sy_dec (by omega) (by omega))
  · exact ⟨hI, by omega⟩
set_option maxRecDepth 20000 in
set_option maxHeartbeats 4000000 in
theorem c_X1_bestToInline_13 {G : sw_G} (d : Nat) {h0 : sw_H} (hJ : cJ h0) (l : Int) (hw : 1 ≤ h0 13 0) : sw_E G NH SH (d + 3) mX1_bestToInline 0 [some (sw_r 177), some (sw_r 13), some (sw_i l), none, none, none, none, none] [] h0 (sw_Qi (fun z h' => cK prK h0 h')) := by
  have hI : cK prK h0 h0 := cK.refl hJ
  have rw : (0 : Int) ≤ h0 13 0 ∧ h0 13 0 ≤ 6 := hI.1.1 13 0
  refine sx_aload_n dX1_bestToInline_0 rfl ?_
  refine sx_getI (k := 0) cl_0 fl_X1_79 dX1_bestToInline_1 s_13 (by decide) rfl (by decide) ?_
  have r1 : (0 : Int) ≤ h0 13 0 ∧ h0 13 0 ≤ 6 := hI.1.1 13 0
  refine sx_iconst dX1_bestToInline_4 ⟨by decide, by decide⟩ ?_
  refine sx_isub dX1_bestToInline_5 ?_
  refine sy_topw (by omega) ?_
  refine sy_top (fun v2 ev2 => ?_)
  refine sx_istore_n dX1_bestToInline_6 (by decide) ?_
  refine sx_aload_n dX1_bestToInline_7 rfl ?_
  refine sx_aload_n dX1_bestToInline_8 rfl ?_
  refine sx_iload_n dX1_bestToInline_9 rfl ?_
  refine sx_iload_n dX1_bestToInline_10 rfl ?_
  refine sx_callVi lk_X1_72 cl_1 s_177 (by decide) dX1_bestToInline_11 (vs := [_, _, _]) rfl rfl (Nat.le_of_ble_eq_true rfl) (Nat.le_of_ble_eq_true rfl) rfl (c_X1_timeOf_13 _ hI.1 _ _ (by omega)) (fun x4 h3 ph3 => ?_)
  have Kh3 := ph3
  have Ih3 := hI.tr Kh3 sb_prK_prK
  refine sx_istore dX1_bestToInline_14 (by decide) ?_
  refine sx_iconst dX1_bestToInline_16 ⟨by decide, by decide⟩ ?_
  refine sx_istore dX1_bestToInline_17 (by decide) ?_
  refine sx_iconst dX1_bestToInline_19 ⟨by decide, by decide⟩ ?_
  refine sx_istore dX1_bestToInline_20 (by decide) ?_
  refine sx_loop3 (fun (h : sw_H) (a : Int) (b : Int) (i : Int) => (cK prK h0 h) ∧ (0 ≤ i)) (fun (h : sw_H) (a : Int) (b : Int) (i : Int) => (6 - i).toNat) (fun (h : sw_H) (a : Int) (b : Int) (i : Int) => sw_E G NH SH (d + 3) mX1_bestToInline 22 [some (sw_r 177), some (sw_r 13), some (sw_i l), some (sw_i v2), some (sw_i a), some (sw_i b), some (sw_i i), none] [] h (sw_Qi (fun z h' => cK prK h0 h'))) ?_ _ _ _ _ ?_
  · rintro h5 a_6 b_7 i_8 ⟨Ih5, j9⟩ ihh5
    try dsimp only at ihh5
    refine sx_iload dX1_bestToInline_22 rfl ?_
    refine sx_iload_n dX1_bestToInline_24 rfl ?_
    refine sx_icmp_gt (tgt := 72) dX1_bestToInline_25 (by decide) (fun c10 => ?_) (fun c10 => ?_)
    ·
      refine sx_iload dX1_bestToInline_72 rfl ?_
      refine sx_ireturn dX1_bestToInline_74 ?_
      exact ⟨_, rfl, Ih5⟩
    ·
      refine sx_iload_n dX1_bestToInline_28 rfl ?_
      refine sx_iload dX1_bestToInline_29 rfl ?_
      refine sx_ishr dX1_bestToInline_31 ?_
      refine sx_iconst dX1_bestToInline_32 ⟨by decide, by decide⟩ ?_
      refine sx_iand dX1_bestToInline_33 ?_
      refine sx_if_ne (tgt := 66) dX1_bestToInline_34 (by decide) (fun c11 => ?_) (fun c11 => ?_)
      ·
        refine sx_iinc dX1_bestToInline_66 (by decide) rfl ?_
        rw [sw_w_id (by omega) (by omega)]
        refine sx_goto (tgt := 22) dX1_bestToInline_69 (by decide) ?_
        exact ihh5 _ _ _ _ ⟨Ih5, by omega⟩ (by exact sy_dec (by omega) (by omega))
      ·
        refine sx_aload_n dX1_bestToInline_37 rfl ?_
        refine sx_aload_n dX1_bestToInline_38 rfl ?_
        refine sx_iload_n dX1_bestToInline_39 rfl ?_
        refine sx_iconst dX1_bestToInline_40 ⟨by decide, by decide⟩ ?_
        refine sx_iload dX1_bestToInline_41 rfl ?_
        refine sx_ishl dX1_bestToInline_43 ?_
        refine sx_ior dX1_bestToInline_44 ?_
        refine sx_iload_n dX1_bestToInline_45 rfl ?_
        refine sx_callVi lk_X1_72 cl_1 s_177 (by decide) dX1_bestToInline_46 (vs := [_, _, _]) rfl rfl (Nat.le_of_ble_eq_true rfl) (Nat.le_of_ble_eq_true rfl) rfl (c_X1_timeOf_13 _ Ih5.1 _ _ (by omega)) (fun x13 h12 ph12 => ?_)
        have Kh12 := ph12
        have Ih12 := Ih5.tr Kh12 sb_prK_prK
        refine sx_istore dX1_bestToInline_49 (by decide) ?_
        refine sx_iload dX1_bestToInline_51 rfl ?_
        refine sx_iload dX1_bestToInline_53 rfl ?_
        refine sx_icmp_ge (tgt := 66) dX1_bestToInline_55 (by decide) (fun c14 => ?_) (fun c14 => ?_)
        ·
          refine sx_iinc dX1_bestToInline_66 (by decide) rfl ?_
          rw [sw_w_id (by omega) (by omega)]
          refine sx_goto (tgt := 22) dX1_bestToInline_69 (by decide) ?_
          refine sx_kill 7 ?_
          exact ihh5 _ _ _ _ ⟨Ih12, by omega⟩ (by exact sy_dec (by omega) (by omega))
        ·
          refine sx_iload dX1_bestToInline_58 rfl ?_
          refine sx_istore dX1_bestToInline_60 (by decide) ?_
          refine sx_iload dX1_bestToInline_62 rfl ?_
          refine sx_istore dX1_bestToInline_64 (by decide) ?_
          refine sx_iinc dX1_bestToInline_66 (by decide) rfl ?_
          rw [sw_w_id (by omega) (by omega)]
          refine sx_goto (tgt := 22) dX1_bestToInline_69 (by decide) ?_
          refine sx_kill 7 ?_
          exact ihh5 _ _ _ _ ⟨Ih12, by omega⟩ (by exact sy_dec (by omega) (by omega))
  · exact ⟨Ih3, by omega⟩
set_option maxRecDepth 20000 in
set_option maxHeartbeats 4000000 in
theorem c_X1_openCalls_13 {G : sw_G} (d : Nat) {h0 : sw_H} (hJ : cJ h0) (w : Int) (hw : 0 ≤ w ∧ w < 6) : sw_E G NH SH (d + 1) mX1_openCalls 0 [some (sw_r 177), some (sw_r 13), some (sw_i w), none, none] [] h0 (sw_Qi (fun z h' => cK prK h0 h')) := by
  have hI : cK prK h0 h0 := cK.refl hJ
  refine sx_iconst dX1_openCalls_0 ⟨by decide, by decide⟩ ?_
  refine sx_istore_n dX1_openCalls_1 (by decide) ?_
  refine sx_loop1 (fun (h : sw_H) (i : Int) => (cK prK h0 h) ∧ (0 ≤ i)) (fun (h : sw_H) (i : Int) => (6 - i).toNat) (fun (h : sw_H) (i : Int) => sw_E G NH SH (d + 1) mX1_openCalls 2 [some (sw_r 177), some (sw_r 13), some (sw_i w), some (sw_i i), none] [] h (sw_Qi (fun z h' => cK prK h0 h'))) ?_ _ _ ?_
  · rintro h1 i_2 ⟨Ih1, j3⟩ ihh1
    try dsimp only at ihh1
    refine sx_iload_n dX1_openCalls_2 rfl ?_
    refine sx_iload_n dX1_openCalls_3 rfl ?_
    refine sx_icmp_gt (tgt := 87) dX1_openCalls_4 (by decide) (fun c4 => ?_) (fun c4 => ?_)
    ·
      refine sx_aload_n dX1_openCalls_87 rfl ?_
      refine sx_getS (k := 1) (t := 179) cl_1 fl_X1_15 dX1_openCalls_88 s_177 (by decide) rfl (by decide) ?_
      refine sx_iload_n dX1_openCalls_91 rfl ?_
      refine sx_iaload dX1_openCalls_92 s_179 (by decide) (by decide) ⟨by omega, by omega⟩ ?_
      refine sx_ireturn dX1_openCalls_93 ?_
      exact ⟨_, rfl, Ih1⟩
    ·
      refine sx_aload_n dX1_openCalls_7 rfl ?_
      refine sx_getS (k := 1) (t := 179) cl_1 fl_X1_15 dX1_openCalls_8 s_177 (by decide) rfl (by decide) ?_
      refine sx_iload_n dX1_openCalls_11 rfl ?_
      refine sx_iconst dX1_openCalls_12 ⟨by decide, by decide⟩ ?_
      refine sy_iastore dX1_openCalls_13 s_179 (by decide) (by decide) ⟨by omega, by omega⟩ (fun h5 eh5 => ?_)
      have Ih5 := Ih1.up eh5 trivial rfl rfl
      refine sx_aload_n dX1_openCalls_14 rfl ?_
      refine sx_getS (k := 9) (t := 18) cl_0 fl_X1_45 dX1_openCalls_15 s_13 (by decide) rfl (by decide) ?_
      refine sx_iload_n dX1_openCalls_18 rfl ?_
      refine sy_iaF (F := fun z => (0 : Int) ≤ z ∧ z ≤ 60) dX1_openCalls_19 s_18 (by decide) (by decide) ⟨by omega, by omega⟩ (Ih5.1.1 18 _) (fun r6 => ?_)
      refine sy_top (fun v7 ev7 => ?_)
      refine sx_istore dX1_openCalls_20 (by decide) ?_
      refine sx_loop1 (fun (h : sw_H) (j : Int) => (cK prK h0 h) ∧ (0 ≤ j)) (fun (h : sw_H) (j : Int) => (60 - j).toNat) (fun (h : sw_H) (j : Int) => sw_E G NH SH (d + 1) mX1_openCalls 22 [some (sw_r 177), some (sw_r 13), some (sw_i w), some (sw_i i_2), some (sw_i j)] [] h (sw_Qi (fun z h' => cK prK h0 h'))) ?_ _ _ ?_
      · rintro h8 j_9 ⟨Ih8, j10⟩ ihh8
        try dsimp only at ihh8
        refine sx_iload dX1_openCalls_22 rfl ?_
        refine sx_aload_n dX1_openCalls_24 rfl ?_
        refine sx_getS (k := 9) (t := 18) cl_0 fl_X1_45 dX1_openCalls_25 s_13 (by decide) rfl (by decide) ?_
        refine sx_iload_n dX1_openCalls_28 rfl ?_
        refine sx_iconst dX1_openCalls_29 ⟨by decide, by decide⟩ ?_
        refine sx_iadd dX1_openCalls_30 ?_
        refine sy_topw (by omega) ?_
        refine sy_iaF (F := fun z => (0 : Int) ≤ z ∧ z ≤ 60) dX1_openCalls_31 s_18 (by decide) (by decide) ⟨by omega, by omega⟩ (Ih8.1.1 18 _) (fun r11 => ?_)
        refine sx_icmp_ge (tgt := 81) dX1_openCalls_32 (by decide) (fun c12 => ?_) (fun c12 => ?_)
        ·
          refine sx_iinc dX1_openCalls_81 (by decide) rfl ?_
          rw [sw_w_id (by omega) (by omega)]
          refine sx_goto (tgt := 2) dX1_openCalls_84 (by decide) ?_
          refine sx_kill 4 ?_
          exact ihh1 _ _ ⟨Ih8, by omega⟩ (by exact sy_dec (by omega) (by omega))
        ·
          refine sx_aload_n dX1_openCalls_35 rfl ?_
          refine sx_getS (k := 5) (t := 14) cl_0 fl_X1_51 dX1_openCalls_36 s_13 (by decide) rfl (by decide) ?_
          refine sx_iload dX1_openCalls_39 rfl ?_
          refine sx_iaload dX1_openCalls_41 s_14 (by decide) (by decide) ⟨by omega, by omega⟩ ?_
          refine sx_iconst dX1_openCalls_42 ⟨by decide, by decide⟩ ?_
          refine sx_icmp_ne (tgt := 75) dX1_openCalls_43 (by decide) (fun c13 => ?_) (fun c13 => ?_)
          ·
            refine sx_iinc dX1_openCalls_75 (by decide) rfl ?_
            rw [sw_w_id (by omega) (by omega)]
            refine sx_goto (tgt := 22) dX1_openCalls_78 (by decide) ?_
            exact ihh8 _ _ ⟨Ih8, by omega⟩ (by exact sy_dec (by omega) (by omega))
          ·
            refine sx_aload_n dX1_openCalls_46 rfl ?_
            refine sx_getS (k := 1) (t := 179) cl_1 fl_X1_15 dX1_openCalls_47 s_177 (by decide) rfl (by decide) ?_
            refine sx_iload_n dX1_openCalls_50 rfl ?_
            refine sx_aload_n dX1_openCalls_51 rfl ?_
            refine sx_getS (k := 1) (t := 179) cl_1 fl_X1_15 dX1_openCalls_52 s_177 (by decide) rfl (by decide) ?_
            refine sx_iload_n dX1_openCalls_55 rfl ?_
            refine sx_iaload dX1_openCalls_56 s_179 (by decide) (by decide) ⟨by omega, by omega⟩ ?_
            refine sx_iconst dX1_openCalls_57 ⟨by decide, by decide⟩ ?_
            refine sx_aload_n dX1_openCalls_58 rfl ?_
            refine sx_getS (k := 1) (t := 179) cl_1 fl_X1_15 dX1_openCalls_59 s_177 (by decide) rfl (by decide) ?_
            refine sx_aload_n dX1_openCalls_62 rfl ?_
            refine sx_getS (k := 6) (t := 15) cl_0 fl_X1_48 dX1_openCalls_63 s_13 (by decide) rfl (by decide) ?_
            refine sx_iload dX1_openCalls_66 rfl ?_
            refine sx_iaload dX1_openCalls_68 s_15 (by decide) (by decide) ⟨by omega, by omega⟩ ?_
            have r1 := R1at13 Ih8.1 (j_9).toNat
            refine sx_iaload dX1_openCalls_69 s_179 (by decide) (by decide) ⟨by omega, by omega⟩ ?_
            refine sx_iadd dX1_openCalls_70 ?_
            refine sx_max lm_X1_54 lw_max dX1_openCalls_71 (Nat.le_of_ble_eq_true rfl) ?_
            refine sy_max (fun m14 em14 fm14 gm14 => ?_)
            refine sy_iastore dX1_openCalls_74 s_179 (by decide) (by decide) ⟨by omega, by omega⟩ (fun h15 eh15 => ?_)
            have Ih15 := Ih8.up eh15 trivial rfl rfl
            refine sx_iinc dX1_openCalls_75 (by decide) rfl ?_
            rw [sw_w_id (by omega) (by omega)]
            refine sx_goto (tgt := 22) dX1_openCalls_78 (by decide) ?_
            exact ihh8 _ _ ⟨Ih15, by omega⟩ (by exact sy_dec (by omega) (by omega))
      · exact ⟨Ih5, by omega⟩
  · exact ⟨hI, by omega⟩

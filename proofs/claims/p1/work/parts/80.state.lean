set_option maxRecDepth 20000 in
set_option maxHeartbeats 4000000 in
theorem c_X8_dropAll {G : sw_G} (d : Nat) {h0 : sw_H} (hJ : cJ h0) (o : Nat) (hom : o ∈ stL)  : sw_E G NH SH (d) mX8_dropAll 0 [some (sw_r o)] [] h0 (sw_Qv (fun h' => cK prS h0 h')) := by
  have hI : cK prS h0 h0 := cK.refl hJ
  obtain ⟨So0, So1, So2, bo⟩ := s_St o hom
  have Bo0 : o < NH := show o < 290 by omega
  have Bo1 : o + 1 < NH := show o + 1 < 290 by omega
  have Bo2 : o + 2 < NH := show o + 2 < 290 by omega
  refine sx_aload_n dX8_dropAll_0 rfl ?_
  refine sx_iconst dX8_dropAll_1 ⟨by decide, by decide⟩ ?_
  refine sy_putI (k := 1) cl_8 fl_X8_32 dX8_dropAll_2 So0 Bo0 rfl (by decide) rfl rfl (fun h1 eh1 => ?_)
  have Ih1 := hI.up eh1 ((okc_of (St_ok1 o hom).1) ▸ (show (0 : Int) ≤ _ ∧ _ ≤ (24 : Int) from ⟨by omega, by omega⟩)) (St_sp o hom _).1.1 (St_sp o hom _).2.1
  refine sx_aload_n dX8_dropAll_5 rfl ?_
  refine sx_iconst dX8_dropAll_6 ⟨by decide, by decide⟩ ?_
  refine sy_putI (k := 3) cl_8 fl_X8_35 dX8_dropAll_7 So0 Bo0 rfl (by decide) rfl rfl (fun h2 eh2 => ?_)
  have Ih2 := Ih1.up eh2 ((okc_of (St_ok1 o hom).2.1) ▸ (show (0 : Int) ≤ _ ∧ _ ≤ (42 : Int) from ⟨by omega, by omega⟩)) (St_sp o hom _).1.1 (St_sp o hom _).2.1
  refine sx_ret dX8_dropAll_10 ?_
  exact ⟨rfl, Ih2⟩
set_option maxRecDepth 20000 in
set_option maxHeartbeats 4000000 in
theorem c_X8_add {G : sw_G} (d : Nat) {h0 : sw_H} (hJ : cJ h0) (o : Nat) (hom : o ∈ stL) (n : Int) : sw_E G NH SH (d) mX8_add 0 [some (sw_r o), some (sw_i n)] [] h0 (sw_Qv (fun h' => cK prS h0 h')) := by
  have hI : cK prS h0 h0 := cK.refl hJ
  obtain ⟨So0, So1, So2, bo⟩ := s_St o hom
  have Bo0 : o < NH := show o < 290 by omega
  have Bo1 : o + 1 < NH := show o + 1 < 290 by omega
  have Bo2 : o + 2 < NH := show o + 2 < 290 by omega
  refine sx_aload_n dX8_add_0 rfl ?_
  refine sx_getI (k := 1) cl_8 fl_X8_32 dX8_add_1 So0 Bo0 rfl (by decide) ?_
  have r1 : (0 : Int) ≤ h0 (o) 1 ∧ h0 (o) 1 ≤ 24 := (okc_of (St_ok1 o hom).1) ▸ hI.1.1 (o) 1
  refine sx_bipush dX8_add_4 ⟨by decide, by decide, by decide⟩ ?_
  refine sx_icmp_ge (tgt := 29) dX8_add_6 (by decide) (fun c2 => ?_) (fun c2 => ?_)
  ·
    refine sx_ret dX8_add_29 ?_
    exact ⟨rfl, hI⟩
  ·
    refine sx_aload_n dX8_add_9 rfl ?_
    refine sx_getS (k := 0) (t := o + 1) cl_8 fl_X8_9 dX8_add_10 So0 Bo0 rfl (by decide) ?_
    refine sx_aload_n dX8_add_13 rfl ?_
    refine sx_getI (k := 1) cl_8 fl_X8_32 dX8_add_14 So0 Bo0 rfl (by decide) ?_
    have r3 : (0 : Int) ≤ h0 (o) 1 ∧ h0 (o) 1 ≤ 24 := (okc_of (St_ok1 o hom).1) ▸ hI.1.1 (o) 1
    refine sx_iload_n dX8_add_17 rfl ?_
    refine sy_iastore dX8_add_18 So1 Bo1 (by decide) ⟨by omega, by omega⟩ (fun h4 eh4 => ?_)
    have Ih4 := hI.up eh4 (St_oka o hom _ _).1 (St_sp o hom _).1.2.1 (St_sp o hom _).2.2.1
    have th4_o_1 := eh4.2 (o) 1 (by omega)
    refine sx_aload_n dX8_add_19 rfl ?_
    refine sx_dupr dX8_add_20 ?_
    refine sx_getI (k := 1) cl_8 fl_X8_32 dX8_add_21 So0 Bo0 rfl (by decide) ?_
    have r5 : (0 : Int) ≤ h4 (o) 1 ∧ h4 (o) 1 ≤ 24 := (okc_of (St_ok1 o hom).1) ▸ Ih4.1.1 (o) 1
    refine sx_iconst dX8_add_24 ⟨by decide, by decide⟩ ?_
    refine sx_iadd dX8_add_25 ?_
    refine sy_topw (by omega) ?_
    refine sy_putI (k := 1) cl_8 fl_X8_32 dX8_add_26 So0 Bo0 rfl (by decide) rfl rfl (fun h6 eh6 => ?_)
    have Ih6 := Ih4.up eh6 ((okc_of (St_ok1 o hom).1) ▸ (show (0 : Int) ≤ _ ∧ _ ≤ (24 : Int) from ⟨by omega, by omega⟩)) (St_sp o hom _).1.1 (St_sp o hom _).2.1
    have th6_o_1 := eh6.1
    refine sx_ret dX8_add_29 ?_
    exact ⟨rfl, Ih6⟩
set_option maxRecDepth 20000 in
set_option maxHeartbeats 4000000 in
theorem c_X8_takeTop {G : sw_G} (d : Nat) {h0 : sw_H} (hJ : cJ h0) (o : Nat) (hom : o ∈ stL)  : sw_E G NH SH (d) mX8_takeTop 0 [some (sw_r o)] [] h0 (sw_Qi (fun z h' => cK prS h0 h')) := by
  have hI : cK prS h0 h0 := cK.refl hJ
  obtain ⟨So0, So1, So2, bo⟩ := s_St o hom
  have Bo0 : o < NH := show o < 290 by omega
  have Bo1 : o + 1 < NH := show o + 1 < 290 by omega
  have Bo2 : o + 2 < NH := show o + 2 < 290 by omega
  refine sx_aload_n dX8_takeTop_0 rfl ?_
  refine sx_getI (k := 1) cl_8 fl_X8_32 dX8_takeTop_1 So0 Bo0 rfl (by decide) ?_
  have r1 : (0 : Int) ≤ h0 (o) 1 ∧ h0 (o) 1 ≤ 24 := (okc_of (St_ok1 o hom).1) ▸ hI.1.1 (o) 1
  refine sx_if_ne (tgt := 9) dX8_takeTop_4 (by decide) (fun c2 => ?_) (fun c2 => ?_)
  ·
    refine sx_aload_n dX8_takeTop_9 rfl ?_
    refine sx_dupr dX8_takeTop_10 ?_
    refine sx_getI (k := 1) cl_8 fl_X8_32 dX8_takeTop_11 So0 Bo0 rfl (by decide) ?_
    have r3 : (0 : Int) ≤ h0 (o) 1 ∧ h0 (o) 1 ≤ 24 := (okc_of (St_ok1 o hom).1) ▸ hI.1.1 (o) 1
    refine sx_iconst dX8_takeTop_14 ⟨by decide, by decide⟩ ?_
    refine sx_isub dX8_takeTop_15 ?_
    refine sy_topw (by omega) ?_
    refine sy_putI (k := 1) cl_8 fl_X8_32 dX8_takeTop_16 So0 Bo0 rfl (by decide) rfl rfl (fun h4 eh4 => ?_)
    have Ih4 := hI.up eh4 ((okc_of (St_ok1 o hom).1) ▸ (show (0 : Int) ≤ _ ∧ _ ≤ (24 : Int) from ⟨by omega, by omega⟩)) (St_sp o hom _).1.1 (St_sp o hom _).2.1
    have th4_o_1 := eh4.1
    refine sx_aload_n dX8_takeTop_19 rfl ?_
    refine sx_getS (k := 0) (t := o + 1) cl_8 fl_X8_9 dX8_takeTop_20 So0 Bo0 rfl (by decide) ?_
    refine sx_aload_n dX8_takeTop_23 rfl ?_
    refine sx_getI (k := 1) cl_8 fl_X8_32 dX8_takeTop_24 So0 Bo0 rfl (by decide) ?_
    have r5 : (0 : Int) ≤ h4 (o) 1 ∧ h4 (o) 1 ≤ 24 := (okc_of (St_ok1 o hom).1) ▸ Ih4.1.1 (o) 1
    refine sx_iaload dX8_takeTop_27 So1 Bo1 (by decide) ⟨by omega, by omega⟩ ?_
    refine sx_ireturn dX8_takeTop_28 ?_
    exact ⟨_, rfl, Ih4⟩
  ·
    refine sx_iconst dX8_takeTop_7 ⟨by decide, by decide⟩ ?_
    refine sx_ireturn dX8_takeTop_8 ?_
    exact ⟨_, rfl, hI⟩
set_option maxRecDepth 20000 in
set_option maxHeartbeats 4000000 in
theorem c_X8_cellAt {G : sw_G} (d : Nat) {h0 : sw_H} (hJ : cJ h0) (o : Nat) (hom : o ∈ stL) (i : Int) : sw_E G NH SH (d) mX8_cellAt 0 [some (sw_r o), some (sw_i i)] [] h0 (sw_Qi (fun z h' => cK prS h0 h')) := by
  have hI : cK prS h0 h0 := cK.refl hJ
  obtain ⟨So0, So1, So2, bo⟩ := s_St o hom
  have Bo0 : o < NH := show o < 290 by omega
  have Bo1 : o + 1 < NH := show o + 1 < 290 by omega
  have Bo2 : o + 2 < NH := show o + 2 < 290 by omega
  refine sx_iload_n dX8_cellAt_0 rfl ?_
  refine sx_if_lt (tgt := 28) dX8_cellAt_1 (by decide) (fun c1 => ?_) (fun c1 => ?_)
  ·
    refine sx_iconst dX8_cellAt_28 ⟨by decide, by decide⟩ ?_
    refine sx_ireturn dX8_cellAt_29 ?_
    exact ⟨_, rfl, hI⟩
  ·
    refine sx_iload_n dX8_cellAt_4 rfl ?_
    refine sx_aload_n dX8_cellAt_5 rfl ?_
    refine sx_getI (k := 1) cl_8 fl_X8_32 dX8_cellAt_6 So0 Bo0 rfl (by decide) ?_
    have r2 : (0 : Int) ≤ h0 (o) 1 ∧ h0 (o) 1 ≤ 24 := (okc_of (St_ok1 o hom).1) ▸ hI.1.1 (o) 1
    refine sx_icmp_ge (tgt := 28) dX8_cellAt_9 (by decide) (fun c3 => ?_) (fun c3 => ?_)
    ·
      refine sx_iconst dX8_cellAt_28 ⟨by decide, by decide⟩ ?_
      refine sx_ireturn dX8_cellAt_29 ?_
      exact ⟨_, rfl, hI⟩
    ·
      refine sx_aload_n dX8_cellAt_12 rfl ?_
      refine sx_getS (k := 0) (t := o + 1) cl_8 fl_X8_9 dX8_cellAt_13 So0 Bo0 rfl (by decide) ?_
      refine sx_aload_n dX8_cellAt_16 rfl ?_
      refine sx_getI (k := 1) cl_8 fl_X8_32 dX8_cellAt_17 So0 Bo0 rfl (by decide) ?_
      have r4 : (0 : Int) ≤ h0 (o) 1 ∧ h0 (o) 1 ≤ 24 := (okc_of (St_ok1 o hom).1) ▸ hI.1.1 (o) 1
      refine sx_iconst dX8_cellAt_20 ⟨by decide, by decide⟩ ?_
      refine sx_isub dX8_cellAt_21 ?_
      refine sy_topw (by omega) ?_
      refine sx_iload_n dX8_cellAt_22 rfl ?_
      refine sx_isub dX8_cellAt_23 ?_
      refine sy_topw (by omega) ?_
      refine sx_iaload dX8_cellAt_24 So1 Bo1 (by decide) ⟨by omega, by omega⟩ ?_
      refine sx_goto (tgt := 29) dX8_cellAt_25 (by decide) ?_
      refine sx_ireturn dX8_cellAt_29 ?_
      exact ⟨_, rfl, hI⟩
set_option maxRecDepth 20000 in
set_option maxHeartbeats 4000000 in
theorem c_X8_putAt {G : sw_G} (d : Nat) {h0 : sw_H} (hJ : cJ h0) (o : Nat) (hom : o ∈ stL) (i : Int) : sw_E G NH SH (d) mX8_putAt 0 [some (sw_r o), some (sw_i i)] [] h0 (sw_Qi (fun z h' => cK prS h0 h')) := by
  have hI : cK prS h0 h0 := cK.refl hJ
  obtain ⟨So0, So1, So2, bo⟩ := s_St o hom
  have Bo0 : o < NH := show o < 290 by omega
  have Bo1 : o + 1 < NH := show o + 1 < 290 by omega
  have Bo2 : o + 2 < NH := show o + 2 < 290 by omega
  refine sx_iload_n dX8_putAt_0 rfl ?_
  refine sx_if_lt (tgt := 28) dX8_putAt_1 (by decide) (fun c1 => ?_) (fun c1 => ?_)
  ·
    refine sx_iconst dX8_putAt_28 ⟨by decide, by decide⟩ ?_
    refine sx_ireturn dX8_putAt_29 ?_
    exact ⟨_, rfl, hI⟩
  ·
    refine sx_iload_n dX8_putAt_4 rfl ?_
    refine sx_aload_n dX8_putAt_5 rfl ?_
    refine sx_getI (k := 3) cl_8 fl_X8_35 dX8_putAt_6 So0 Bo0 rfl (by decide) ?_
    have r2 : (0 : Int) ≤ h0 (o) 3 ∧ h0 (o) 3 ≤ 42 := (okc_of (St_ok1 o hom).2.1) ▸ hI.1.1 (o) 3
    refine sx_icmp_ge (tgt := 28) dX8_putAt_9 (by decide) (fun c3 => ?_) (fun c3 => ?_)
    ·
      refine sx_iconst dX8_putAt_28 ⟨by decide, by decide⟩ ?_
      refine sx_ireturn dX8_putAt_29 ?_
      exact ⟨_, rfl, hI⟩
    ·
      refine sx_aload_n dX8_putAt_12 rfl ?_
      refine sx_getS (k := 2) (t := o + 2) cl_8 fl_X8_15 dX8_putAt_13 So0 Bo0 rfl (by decide) ?_
      refine sx_aload_n dX8_putAt_16 rfl ?_
      refine sx_getI (k := 3) cl_8 fl_X8_35 dX8_putAt_17 So0 Bo0 rfl (by decide) ?_
      have r4 : (0 : Int) ≤ h0 (o) 3 ∧ h0 (o) 3 ≤ 42 := (okc_of (St_ok1 o hom).2.1) ▸ hI.1.1 (o) 3
      refine sx_iconst dX8_putAt_20 ⟨by decide, by decide⟩ ?_
      refine sx_isub dX8_putAt_21 ?_
      refine sy_topw (by omega) ?_
      refine sx_iload_n dX8_putAt_22 rfl ?_
      refine sx_isub dX8_putAt_23 ?_
      refine sy_topw (by omega) ?_
      refine sx_iaload dX8_putAt_24 So2 Bo2 (by decide) ⟨by omega, by omega⟩ ?_
      refine sx_goto (tgt := 29) dX8_putAt_25 (by decide) ?_
      refine sx_ireturn dX8_putAt_29 ?_
      exact ⟨_, rfl, hI⟩
set_option maxRecDepth 20000 in
set_option maxHeartbeats 4000000 in
theorem c_X8_turnBit {G : sw_G} (d : Nat) {h0 : sw_H} (hJ : cJ h0) (o : Nat) (hom : o ∈ stL) (n : Int) : sw_E G NH SH (d) mX8_turnBit 0 [some (sw_r o), some (sw_i n), none] [] h0 (sw_Qi (fun z h' => cK prS h0 h')) := by
  have hI : cK prS h0 h0 := cK.refl hJ
  obtain ⟨So0, So1, So2, bo⟩ := s_St o hom
  have Bo0 : o < NH := show o < 290 by omega
  have Bo1 : o + 1 < NH := show o + 1 < 290 by omega
  have Bo2 : o + 2 < NH := show o + 2 < 290 by omega
  refine sx_aload_n dX8_turnBit_0 rfl ?_
  refine sx_aload_n dX8_turnBit_1 rfl ?_
  refine sx_getI (k := 5) cl_8 fl_X8_25 dX8_turnBit_2 So0 Bo0 rfl (by decide) ?_
  refine sx_sipush dX8_turnBit_5 ⟨by decide, by decide, by decide⟩ ?_
  refine sx_imul dX8_turnBit_8 ?_
  refine sx_bipush dX8_turnBit_9 ⟨by decide, by decide, by decide⟩ ?_
  refine sx_iadd dX8_turnBit_11 ?_
  refine sx_sipush dX8_turnBit_12 ⟨by decide, by decide, by decide⟩ ?_
  refine sx_irem dX8_turnBit_15 (by omega) ?_
  refine sy_putI (k := 5) cl_8 fl_X8_25 dX8_turnBit_16 So0 Bo0 rfl (by decide) rfl rfl (fun h1 eh1 => ?_)
  have Ih1 := hI.up eh1 (okc_no (St_ok1 o hom).2.2.2) (St_sp o hom _).1.1 (St_sp o hom _).2.1
  have th1_o_5 := eh1.1
  have th1_o_1 := eh1.2 (o) 1 (by omega)
  refine sx_aload_n dX8_turnBit_19 rfl ?_
  refine sx_getI (k := 5) cl_8 fl_X8_25 dX8_turnBit_20 So0 Bo0 rfl (by decide) ?_
  refine sx_bipush dX8_turnBit_23 ⟨by decide, by decide, by decide⟩ ?_
  refine sx_irem dX8_turnBit_25 (by omega) ?_
  refine sx_iload_n dX8_turnBit_26 rfl ?_
  refine sx_icmp_ge (tgt := 37) dX8_turnBit_27 (by decide) (fun c2 => ?_) (fun c2 => ?_)
  ·
    refine sx_iconst dX8_turnBit_37 ⟨by decide, by decide⟩ ?_
    refine sx_ireturn dX8_turnBit_38 ?_
    exact ⟨_, rfl, Ih1⟩
  ·
    refine sx_aload_n dX8_turnBit_30 rfl ?_
    refine sx_getI (k := 1) cl_8 fl_X8_32 dX8_turnBit_31 So0 Bo0 rfl (by decide) ?_
    have r3 : (0 : Int) ≤ h1 (o) 1 ∧ h1 (o) 1 ≤ 24 := (okc_of (St_ok1 o hom).1) ▸ Ih1.1.1 (o) 1
    refine sx_if_ne (tgt := 39) dX8_turnBit_34 (by decide) (fun c4 => ?_) (fun c4 => ?_)
    ·
      refine sx_aload_n dX8_turnBit_39 rfl ?_
      refine sx_getI (k := 5) cl_8 fl_X8_25 dX8_turnBit_40 So0 Bo0 rfl (by decide) ?_
      refine sx_bipush dX8_turnBit_43 ⟨by decide, by decide, by decide⟩ ?_
      refine sx_idiv dX8_turnBit_45 (by omega) ?_
      refine sy_top (fun v5 ev5 => ?_)
      refine sx_istore_n dX8_turnBit_46 (by decide) ?_
      refine sx_aload_n dX8_turnBit_47 rfl ?_
      refine sx_getS (k := 0) (t := o + 1) cl_8 fl_X8_9 dX8_turnBit_48 So0 Bo0 rfl (by decide) ?_
      refine sx_aload_n dX8_turnBit_51 rfl ?_
      refine sx_getI (k := 1) cl_8 fl_X8_32 dX8_turnBit_52 So0 Bo0 rfl (by decide) ?_
      have r6 : (0 : Int) ≤ h1 (o) 1 ∧ h1 (o) 1 ≤ 24 := (okc_of (St_ok1 o hom).1) ▸ Ih1.1.1 (o) 1
      refine sx_iconst dX8_turnBit_55 ⟨by decide, by decide⟩ ?_
      refine sx_isub dX8_turnBit_56 ?_
      refine sy_topw (by omega) ?_
      refine sx_dup2 dX8_turnBit_57 ?_
      refine sx_iaload dX8_turnBit_58 So1 Bo1 (by decide) ⟨by omega, by omega⟩ ?_
      refine sx_iconst dX8_turnBit_59 ⟨by decide, by decide⟩ ?_
      refine sx_iload_n dX8_turnBit_60 rfl ?_
      refine sx_ishl dX8_turnBit_61 ?_
      refine sx_ixor dX8_turnBit_62 ?_
      refine sy_iastore dX8_turnBit_63 So1 Bo1 (by decide) ⟨by omega, by omega⟩ (fun h7 eh7 => ?_)
      have Ih7 := Ih1.up eh7 (St_oka o hom _ _).1 (St_sp o hom _).1.2.1 (St_sp o hom _).2.2.1
      have th7_o_5 := eh7.2 (o) 5 (by omega)
      have th7_o_1 := eh7.2 (o) 1 (by omega)
      refine sx_iload_n dX8_turnBit_64 rfl ?_
      refine sx_ireturn dX8_turnBit_65 ?_
      exact ⟨_, rfl, Ih7⟩
    ·
      refine sx_iconst dX8_turnBit_37 ⟨by decide, by decide⟩ ?_
      refine sx_ireturn dX8_turnBit_38 ?_
      exact ⟨_, rfl, Ih1⟩
set_option maxRecDepth 20000 in
set_option maxHeartbeats 4000000 in
theorem c_X8_begin {G : sw_G} (d : Nat) {h0 : sw_H} (hJ : cJ h0) (o : Nat) (hom : o ∈ stL) (n : Int) : sw_E G NH SH (d + 1) mX8_begin 0 [some (sw_r o), some (sw_i n)] [] h0 (sw_Qv (fun h' => cK prS h0 h')) := by
  have hI : cK prS h0 h0 := cK.refl hJ
  obtain ⟨So0, So1, So2, bo⟩ := s_St o hom
  have Bo0 : o < NH := show o < 290 by omega
  have Bo1 : o + 1 < NH := show o + 1 < 290 by omega
  have Bo2 : o + 2 < NH := show o + 2 < 290 by omega
  refine sx_aload_n dX8_begin_0 rfl ?_
  refine sx_callVv lk_X8_18 cl_8 So0 Bo0 dX8_begin_1 (vs := []) rfl rfl (Nat.le_of_ble_eq_true rfl) (Nat.le_of_ble_eq_true rfl) rfl (c_X8_dropAll _ hI.1 (o) hom) (fun h1 ph1 => ?_)
  have Kh1 := ph1
  have Ih1 := hI.tr Kh1 sb_prS_prS
  refine sx_aload_n dX8_begin_4 rfl ?_
  refine sx_iconst dX8_begin_5 ⟨by decide, by decide⟩ ?_
  refine sy_putI (k := 4) cl_8 fl_X8_21 dX8_begin_6 So0 Bo0 rfl (by decide) rfl rfl (fun h3 eh3 => ?_)
  have Ih3 := Ih1.up eh3 (okc_no (St_ok1 o hom).2.2.1) (St_sp o hom _).1.1 (St_sp o hom _).2.1
  refine sx_aload_n dX8_begin_9 rfl ?_
  refine sx_iload_n dX8_begin_10 rfl ?_
  refine sy_putI (k := 5) cl_8 fl_X8_25 dX8_begin_11 So0 Bo0 rfl (by decide) rfl rfl (fun h4 eh4 => ?_)
  have Ih4 := Ih3.up eh4 (okc_no (St_ok1 o hom).2.2.2) (St_sp o hom _).1.1 (St_sp o hom _).2.1
  refine sx_ret dX8_begin_14 ?_
  exact ⟨rfl, Ih4⟩
set_option maxRecDepth 20000 in
set_option maxHeartbeats 4000000 in
theorem c_X8_beginWith {G : sw_G} (d : Nat) {h0 : sw_H} (hJ : cJ h0) (o : Nat) (hom : o ∈ stL) (a b c : Int) : sw_E G NH SH (d + 1) mX8_beginWith 0 [some (sw_r o), some (sw_i a), some (sw_i b), some (sw_i c)] [] h0 (sw_Qv (fun h' => cK prS h0 h')) := by
  have hI : cK prS h0 h0 := cK.refl hJ
  obtain ⟨So0, So1, So2, bo⟩ := s_St o hom
  have Bo0 : o < NH := show o < 290 by omega
  have Bo1 : o + 1 < NH := show o + 1 < 290 by omega
  have Bo2 : o + 2 < NH := show o + 2 < 290 by omega
  refine sx_aload_n dX8_beginWith_0 rfl ?_
  refine sx_callVv lk_X8_18 cl_8 So0 Bo0 dX8_beginWith_1 (vs := []) rfl rfl (Nat.le_of_ble_eq_true rfl) (Nat.le_of_ble_eq_true rfl) rfl (c_X8_dropAll _ hI.1 (o) hom) (fun h1 ph1 => ?_)
  have Kh1 := ph1
  have Ih1 := hI.tr Kh1 sb_prS_prS
  refine sx_aload_n dX8_beginWith_4 rfl ?_
  refine sx_iload_n dX8_beginWith_5 rfl ?_
  refine sx_callVv lk_X8_28 cl_8 So0 Bo0 dX8_beginWith_6 (vs := [_]) rfl rfl (Nat.le_of_ble_eq_true rfl) (Nat.le_of_ble_eq_true rfl) rfl (c_X8_add _ Ih1.1 (o) hom _) (fun h3 ph3 => ?_)
  have Kh3 := ph3
  have Ih3 := Ih1.tr Kh3 sb_prS_prS
  refine sx_aload_n dX8_beginWith_9 rfl ?_
  refine sx_iload_n dX8_beginWith_10 rfl ?_
  refine sx_callVv lk_X8_28 cl_8 So0 Bo0 dX8_beginWith_11 (vs := [_]) rfl rfl (Nat.le_of_ble_eq_true rfl) (Nat.le_of_ble_eq_true rfl) rfl (c_X8_add _ Ih3.1 (o) hom _) (fun h5 ph5 => ?_)
  have Kh5 := ph5
  have Ih5 := Ih3.tr Kh5 sb_prS_prS
  refine sx_aload_n dX8_beginWith_14 rfl ?_
  refine sx_iload_n dX8_beginWith_15 rfl ?_
  refine sx_callVv lk_X8_28 cl_8 So0 Bo0 dX8_beginWith_16 (vs := [_]) rfl rfl (Nat.le_of_ble_eq_true rfl) (Nat.le_of_ble_eq_true rfl) rfl (c_X8_add _ Ih5.1 (o) hom _) (fun h7 ph7 => ?_)
  have Kh7 := ph7
  have Ih7 := Ih5.tr Kh7 sb_prS_prS
  refine sx_ret dX8_beginWith_19 ?_
  exact ⟨rfl, Ih7⟩
set_option maxRecDepth 20000 in
set_option maxHeartbeats 4000000 in
theorem c_X8_canByHand {G : sw_G} (d : Nat) {h0 : sw_H} (hJ : cJ h0) (o : Nat) (hom : o ∈ stL) (t : Int) (ht : 0 ≤ t ∧ t ≤ 14) : sw_E G NH SH (d) mX8_canByHand 0 [some (sw_r o), some (sw_i t)] [] h0 (sw_Qz (fun z h' => cK prS h0 h')) := by
  have hI : cK prS h0 h0 := cK.refl hJ
  obtain ⟨So0, So1, So2, bo⟩ := s_St o hom
  have Bo0 : o < NH := show o < 290 by omega
  have Bo1 : o + 1 < NH := show o + 1 < 290 by omega
  have Bo2 : o + 2 < NH := show o + 2 < 290 by omega
  refine sx_iload_n dX8_canByHand_0 rfl ?_
  refine sx_bipush dX8_canByHand_1 ⟨by decide, by decide, by decide⟩ ?_
  refine sx_icmp_ne (tgt := 15) dX8_canByHand_3 (by decide) (fun c1 => ?_) (fun c1 => ?_)
  ·
    refine sx_iload_n dX8_canByHand_15 rfl ?_
    refine sx_bipush dX8_canByHand_16 ⟨by decide, by decide, by decide⟩ ?_
    refine sx_icmp_ne (tgt := 30) dX8_canByHand_18 (by decide) (fun c2 => ?_) (fun c2 => ?_)
    ·
      refine sx_aload_n dX8_canByHand_30 rfl ?_
      refine sx_getI (k := 1) cl_8 fl_X8_32 dX8_canByHand_31 So0 Bo0 rfl (by decide) ?_
      have r3 : (0 : Int) ≤ h0 (o) 1 ∧ h0 (o) 1 ≤ 24 := (okc_of (St_ok1 o hom).1) ▸ hI.1.1 (o) 1
      refine sx_gets (t := 0) (by decide) sl_X8_44 dX8_canByHand_34 ?_
      refine sx_iload_n dX8_canByHand_37 rfl ?_
      refine sy_sia (t := 0) (n := 15) (by decide) dX8_canByHand_38 rfl ⟨by omega, by omega⟩ (fun r4 => ?_)
      refine sx_icmp_lt (tgt := 67) dX8_canByHand_39 (by decide) (fun c5 => ?_) (fun c5 => ?_)
      ·
        refine sx_iconst dX8_canByHand_67 ⟨by decide, by decide⟩ ?_
        refine sx_ireturn dX8_canByHand_68 ?_
        exact ⟨_, rfl, by omega, hI⟩
      ·
        refine sx_aload_n dX8_canByHand_42 rfl ?_
        refine sx_getI (k := 1) cl_8 fl_X8_32 dX8_canByHand_43 So0 Bo0 rfl (by decide) ?_
        have r6 : (0 : Int) ≤ h0 (o) 1 ∧ h0 (o) 1 ≤ 24 := (okc_of (St_ok1 o hom).1) ▸ hI.1.1 (o) 1
        refine sx_gets (t := 0) (by decide) sl_X8_44 dX8_canByHand_46 ?_
        refine sx_iload_n dX8_canByHand_49 rfl ?_
        refine sy_sia (t := 0) (n := 15) (by decide) dX8_canByHand_50 rfl ⟨by omega, by omega⟩ (fun r7 => ?_)
        refine sx_isub dX8_canByHand_51 ?_
        refine sy_topw (by omega) ?_
        refine sx_gets (t := 1) (by decide) sl_X8_47 dX8_canByHand_52 ?_
        refine sx_iload_n dX8_canByHand_55 rfl ?_
        refine sy_sia (t := 1) (n := 15) (by decide) dX8_canByHand_56 rfl ⟨by omega, by omega⟩ (fun r8 => ?_)
        refine sx_iadd dX8_canByHand_57 ?_
        refine sy_topw (by omega) ?_
        refine sx_bipush dX8_canByHand_58 ⟨by decide, by decide, by decide⟩ ?_
        refine sx_icmp_gt (tgt := 67) dX8_canByHand_60 (by decide) (fun c9 => ?_) (fun c9 => ?_)
        ·
          refine sx_iconst dX8_canByHand_67 ⟨by decide, by decide⟩ ?_
          refine sx_ireturn dX8_canByHand_68 ?_
          exact ⟨_, rfl, by omega, hI⟩
        ·
          refine sx_iconst dX8_canByHand_63 ⟨by decide, by decide⟩ ?_
          refine sx_goto (tgt := 68) dX8_canByHand_64 (by decide) ?_
          refine sx_ireturn dX8_canByHand_68 ?_
          exact ⟨_, rfl, by omega, hI⟩
    ·
      refine sx_aload_n dX8_canByHand_21 rfl ?_
      refine sx_getI (k := 3) cl_8 fl_X8_35 dX8_canByHand_22 So0 Bo0 rfl (by decide) ?_
      have r10 : (0 : Int) ≤ h0 (o) 3 ∧ h0 (o) 3 ≤ 42 := (okc_of (St_ok1 o hom).2.1) ▸ hI.1.1 (o) 3
      refine sx_if_ne (tgt := 30) dX8_canByHand_25 (by decide) (fun c11 => ?_) (fun c11 => ?_)
      ·
        refine sx_aload_n dX8_canByHand_30 rfl ?_
        refine sx_getI (k := 1) cl_8 fl_X8_32 dX8_canByHand_31 So0 Bo0 rfl (by decide) ?_
        have r12 : (0 : Int) ≤ h0 (o) 1 ∧ h0 (o) 1 ≤ 24 := (okc_of (St_ok1 o hom).1) ▸ hI.1.1 (o) 1
        refine sx_gets (t := 0) (by decide) sl_X8_44 dX8_canByHand_34 ?_
        refine sx_iload_n dX8_canByHand_37 rfl ?_
        refine sy_sia (t := 0) (n := 15) (by decide) dX8_canByHand_38 rfl ⟨by omega, by omega⟩ (fun r13 => ?_)
        refine sx_icmp_lt (tgt := 67) dX8_canByHand_39 (by decide) (fun c14 => ?_) (fun c14 => ?_)
        ·
          refine sx_iconst dX8_canByHand_67 ⟨by decide, by decide⟩ ?_
          refine sx_ireturn dX8_canByHand_68 ?_
          exact ⟨_, rfl, by omega, hI⟩
        ·
          refine sx_aload_n dX8_canByHand_42 rfl ?_
          refine sx_getI (k := 1) cl_8 fl_X8_32 dX8_canByHand_43 So0 Bo0 rfl (by decide) ?_
          have r15 : (0 : Int) ≤ h0 (o) 1 ∧ h0 (o) 1 ≤ 24 := (okc_of (St_ok1 o hom).1) ▸ hI.1.1 (o) 1
          refine sx_gets (t := 0) (by decide) sl_X8_44 dX8_canByHand_46 ?_
          refine sx_iload_n dX8_canByHand_49 rfl ?_
          refine sy_sia (t := 0) (n := 15) (by decide) dX8_canByHand_50 rfl ⟨by omega, by omega⟩ (fun r16 => ?_)
          refine sx_isub dX8_canByHand_51 ?_
          refine sy_topw (by omega) ?_
          refine sx_gets (t := 1) (by decide) sl_X8_47 dX8_canByHand_52 ?_
          refine sx_iload_n dX8_canByHand_55 rfl ?_
          refine sy_sia (t := 1) (n := 15) (by decide) dX8_canByHand_56 rfl ⟨by omega, by omega⟩ (fun r17 => ?_)
          refine sx_iadd dX8_canByHand_57 ?_
          refine sy_topw (by omega) ?_
          refine sx_bipush dX8_canByHand_58 ⟨by decide, by decide, by decide⟩ ?_
          refine sx_icmp_gt (tgt := 67) dX8_canByHand_60 (by decide) (fun c18 => ?_) (fun c18 => ?_)
          ·
            refine sx_iconst dX8_canByHand_67 ⟨by decide, by decide⟩ ?_
            refine sx_ireturn dX8_canByHand_68 ?_
            exact ⟨_, rfl, by omega, hI⟩
          ·
            refine sx_iconst dX8_canByHand_63 ⟨by decide, by decide⟩ ?_
            refine sx_goto (tgt := 68) dX8_canByHand_64 (by decide) ?_
            refine sx_ireturn dX8_canByHand_68 ?_
            exact ⟨_, rfl, by omega, hI⟩
      ·
        refine sx_iconst dX8_canByHand_28 ⟨by decide, by decide⟩ ?_
        refine sx_ireturn dX8_canByHand_29 ?_
        exact ⟨_, rfl, by omega, hI⟩
  ·
    refine sx_aload_n dX8_canByHand_6 rfl ?_
    refine sx_getI (k := 3) cl_8 fl_X8_35 dX8_canByHand_7 So0 Bo0 rfl (by decide) ?_
    have r19 : (0 : Int) ≤ h0 (o) 3 ∧ h0 (o) 3 ≤ 42 := (okc_of (St_ok1 o hom).2.1) ▸ hI.1.1 (o) 3
    refine sx_bipush dX8_canByHand_10 ⟨by decide, by decide, by decide⟩ ?_
    refine sx_icmp_ge (tgt := 28) dX8_canByHand_12 (by decide) (fun c20 => ?_) (fun c20 => ?_)
    ·
      refine sx_iconst dX8_canByHand_28 ⟨by decide, by decide⟩ ?_
      refine sx_ireturn dX8_canByHand_29 ?_
      exact ⟨_, rfl, by omega, hI⟩
    ·
      refine sx_iload_n dX8_canByHand_15 rfl ?_
      refine sx_bipush dX8_canByHand_16 ⟨by decide, by decide, by decide⟩ ?_
      refine sx_icmp_ne (tgt := 30) dX8_canByHand_18 (by decide) (fun c21 => ?_) (fun c21 => ?_)
      ·
        refine sx_aload_n dX8_canByHand_30 rfl ?_
        refine sx_getI (k := 1) cl_8 fl_X8_32 dX8_canByHand_31 So0 Bo0 rfl (by decide) ?_
        have r22 : (0 : Int) ≤ h0 (o) 1 ∧ h0 (o) 1 ≤ 24 := (okc_of (St_ok1 o hom).1) ▸ hI.1.1 (o) 1
        refine sx_gets (t := 0) (by decide) sl_X8_44 dX8_canByHand_34 ?_
        refine sx_iload_n dX8_canByHand_37 rfl ?_
        refine sy_sia (t := 0) (n := 15) (by decide) dX8_canByHand_38 rfl ⟨by omega, by omega⟩ (fun r23 => ?_)
        refine sx_icmp_lt (tgt := 67) dX8_canByHand_39 (by decide) (fun c24 => ?_) (fun c24 => ?_)
        ·
          refine sx_iconst dX8_canByHand_67 ⟨by decide, by decide⟩ ?_
          refine sx_ireturn dX8_canByHand_68 ?_
          exact ⟨_, rfl, by omega, hI⟩
        ·
          refine sx_aload_n dX8_canByHand_42 rfl ?_
          refine sx_getI (k := 1) cl_8 fl_X8_32 dX8_canByHand_43 So0 Bo0 rfl (by decide) ?_
          have r25 : (0 : Int) ≤ h0 (o) 1 ∧ h0 (o) 1 ≤ 24 := (okc_of (St_ok1 o hom).1) ▸ hI.1.1 (o) 1
          refine sx_gets (t := 0) (by decide) sl_X8_44 dX8_canByHand_46 ?_
          refine sx_iload_n dX8_canByHand_49 rfl ?_
          refine sy_sia (t := 0) (n := 15) (by decide) dX8_canByHand_50 rfl ⟨by omega, by omega⟩ (fun r26 => ?_)
          refine sx_isub dX8_canByHand_51 ?_
          refine sy_topw (by omega) ?_
          refine sx_gets (t := 1) (by decide) sl_X8_47 dX8_canByHand_52 ?_
          refine sx_iload_n dX8_canByHand_55 rfl ?_
          refine sy_sia (t := 1) (n := 15) (by decide) dX8_canByHand_56 rfl ⟨by omega, by omega⟩ (fun r27 => ?_)
          refine sx_iadd dX8_canByHand_57 ?_
          refine sy_topw (by omega) ?_
          refine sx_bipush dX8_canByHand_58 ⟨by decide, by decide, by decide⟩ ?_
          refine sx_icmp_gt (tgt := 67) dX8_canByHand_60 (by decide) (fun c28 => ?_) (fun c28 => ?_)
          ·
            refine sx_iconst dX8_canByHand_67 ⟨by decide, by decide⟩ ?_
            refine sx_ireturn dX8_canByHand_68 ?_
            exact ⟨_, rfl, by omega, hI⟩
          ·
            refine sx_iconst dX8_canByHand_63 ⟨by decide, by decide⟩ ?_
            refine sx_goto (tgt := 68) dX8_canByHand_64 (by decide) ?_
            refine sx_ireturn dX8_canByHand_68 ?_
            exact ⟨_, rfl, by omega, hI⟩
      ·
        refine sx_aload_n dX8_canByHand_21 rfl ?_
        refine sx_getI (k := 3) cl_8 fl_X8_35 dX8_canByHand_22 So0 Bo0 rfl (by decide) ?_
        have r29 : (0 : Int) ≤ h0 (o) 3 ∧ h0 (o) 3 ≤ 42 := (okc_of (St_ok1 o hom).2.1) ▸ hI.1.1 (o) 3
        refine sx_if_ne (tgt := 30) dX8_canByHand_25 (by decide) (fun c30 => ?_) (fun c30 => ?_)
        ·
          refine sx_aload_n dX8_canByHand_30 rfl ?_
          refine sx_getI (k := 1) cl_8 fl_X8_32 dX8_canByHand_31 So0 Bo0 rfl (by decide) ?_
          have r31 : (0 : Int) ≤ h0 (o) 1 ∧ h0 (o) 1 ≤ 24 := (okc_of (St_ok1 o hom).1) ▸ hI.1.1 (o) 1
          refine sx_gets (t := 0) (by decide) sl_X8_44 dX8_canByHand_34 ?_
          refine sx_iload_n dX8_canByHand_37 rfl ?_
          refine sy_sia (t := 0) (n := 15) (by decide) dX8_canByHand_38 rfl ⟨by omega, by omega⟩ (fun r32 => ?_)
          refine sx_icmp_lt (tgt := 67) dX8_canByHand_39 (by decide) (fun c33 => ?_) (fun c33 => ?_)
          ·
            refine sx_iconst dX8_canByHand_67 ⟨by decide, by decide⟩ ?_
            refine sx_ireturn dX8_canByHand_68 ?_
            exact ⟨_, rfl, by omega, hI⟩
          ·
            refine sx_aload_n dX8_canByHand_42 rfl ?_
            refine sx_getI (k := 1) cl_8 fl_X8_32 dX8_canByHand_43 So0 Bo0 rfl (by decide) ?_
            have r34 : (0 : Int) ≤ h0 (o) 1 ∧ h0 (o) 1 ≤ 24 := (okc_of (St_ok1 o hom).1) ▸ hI.1.1 (o) 1
            refine sx_gets (t := 0) (by decide) sl_X8_44 dX8_canByHand_46 ?_
            refine sx_iload_n dX8_canByHand_49 rfl ?_
            refine sy_sia (t := 0) (n := 15) (by decide) dX8_canByHand_50 rfl ⟨by omega, by omega⟩ (fun r35 => ?_)
            refine sx_isub dX8_canByHand_51 ?_
            refine sy_topw (by omega) ?_
            refine sx_gets (t := 1) (by decide) sl_X8_47 dX8_canByHand_52 ?_
            refine sx_iload_n dX8_canByHand_55 rfl ?_
            refine sy_sia (t := 1) (n := 15) (by decide) dX8_canByHand_56 rfl ⟨by omega, by omega⟩ (fun r36 => ?_)
            refine sx_iadd dX8_canByHand_57 ?_
            refine sy_topw (by omega) ?_
            refine sx_bipush dX8_canByHand_58 ⟨by decide, by decide, by decide⟩ ?_
            refine sx_icmp_gt (tgt := 67) dX8_canByHand_60 (by decide) (fun c37 => ?_) (fun c37 => ?_)
            ·
              refine sx_iconst dX8_canByHand_67 ⟨by decide, by decide⟩ ?_
              refine sx_ireturn dX8_canByHand_68 ?_
              exact ⟨_, rfl, by omega, hI⟩
            ·
              refine sx_iconst dX8_canByHand_63 ⟨by decide, by decide⟩ ?_
              refine sx_goto (tgt := 68) dX8_canByHand_64 (by decide) ?_
              refine sx_ireturn dX8_canByHand_68 ?_
              exact ⟨_, rfl, by omega, hI⟩
        ·
          refine sx_iconst dX8_canByHand_28 ⟨by decide, by decide⟩ ?_
          refine sx_ireturn dX8_canByHand_29 ?_
          exact ⟨_, rfl, by omega, hI⟩
set_option maxRecDepth 20000 in
set_option maxHeartbeats 4000000 in
theorem c_X8_copyFrom {G : sw_G} (d : Nat) {h0 : sw_H} (hJ : cJ h0) (o : Nat) (hom : o ∈ stL) (p : Nat) (hpm : p ∈ stL) : sw_E G NH SH (d + 1) mX8_copyFrom 0 [some (sw_r o), some (sw_r p)] [] h0 (sw_Qv (fun h' => cK prS h0 h')) := by
  have hI : cK prS h0 h0 := cK.refl hJ
  obtain ⟨So0, So1, So2, bo⟩ := s_St o hom
  have Bo0 : o < NH := show o < 290 by omega
  have Bo1 : o + 1 < NH := show o + 1 < 290 by omega
  have Bo2 : o + 2 < NH := show o + 2 < 290 by omega
  obtain ⟨Sp0, Sp1, Sp2, bp⟩ := s_St p hpm
  have Bp0 : p < NH := show p < 290 by omega
  have Bp1 : p + 1 < NH := show p + 1 < 290 by omega
  have Bp2 : p + 2 < NH := show p + 2 < 290 by omega
  refine sx_aload_n dX8_copyFrom_0 rfl ?_
  refine sx_getS (k := 0) (t := p + 1) cl_8 fl_X8_9 dX8_copyFrom_1 Sp0 Bp0 rfl (by decide) ?_
  refine sx_iconst dX8_copyFrom_4 ⟨by decide, by decide⟩ ?_
  refine sx_aload_n dX8_copyFrom_5 rfl ?_
  refine sx_getS (k := 0) (t := o + 1) cl_8 fl_X8_9 dX8_copyFrom_6 So0 Bo0 rfl (by decide) ?_
  refine sx_iconst dX8_copyFrom_9 ⟨by decide, by decide⟩ ?_
  refine sx_aload_n dX8_copyFrom_10 rfl ?_
  refine sx_getI (k := 1) cl_8 fl_X8_32 dX8_copyFrom_11 Sp0 Bp0 rfl (by decide) ?_
  have r1 : (0 : Int) ≤ h0 (p) 1 ∧ h0 (p) 1 ≤ 24 := (okc_of (St_ok1 p hpm).1) ▸ hI.1.1 (p) 1
  refine sx_copy lc_X8_38 lw_copy dX8_copyFrom_14 Sp1 Bp1 So1 Bo1 (by decide) (by decide) ⟨by omega, by omega, by omega⟩ ⟨by omega, by omega⟩ (Nat.le_of_ble_eq_true rfl) (by decide) (fun h2 kh2 vh2 => ?_)
  have Ih2 := hI.upA kh2 (fun _ => (St_oka o hom _ _).1) (fun _ => (St_sp o hom _).1.2.1) (fun _ => (St_sp o hom _).2.2.1)
  refine sx_aload_n dX8_copyFrom_17 rfl ?_
  refine sx_getS (k := 2) (t := p + 2) cl_8 fl_X8_15 dX8_copyFrom_18 Sp0 Bp0 rfl (by decide) ?_
  refine sx_iconst dX8_copyFrom_21 ⟨by decide, by decide⟩ ?_
  refine sx_aload_n dX8_copyFrom_22 rfl ?_
  refine sx_getS (k := 2) (t := o + 2) cl_8 fl_X8_15 dX8_copyFrom_23 So0 Bo0 rfl (by decide) ?_
  refine sx_iconst dX8_copyFrom_26 ⟨by decide, by decide⟩ ?_
  refine sx_aload_n dX8_copyFrom_27 rfl ?_
  refine sx_getI (k := 3) cl_8 fl_X8_35 dX8_copyFrom_28 Sp0 Bp0 rfl (by decide) ?_
  have r3 : (0 : Int) ≤ h2 (p) 3 ∧ h2 (p) 3 ≤ 42 := (okc_of (St_ok1 p hpm).2.1) ▸ Ih2.1.1 (p) 3
  refine sx_copy lc_X8_38 lw_copy dX8_copyFrom_31 Sp2 Bp2 So2 Bo2 (by decide) (by decide) ⟨by omega, by omega, by omega⟩ ⟨by omega, by omega⟩ (Nat.le_of_ble_eq_true rfl) (by decide) (fun h4 kh4 vh4 => ?_)
  have Ih4 := Ih2.upA kh4 (fun _ => (St_oka o hom _ _).2) (fun _ => (St_sp o hom _).1.2.2) (fun _ => (St_sp o hom _).2.2.2)
  refine sx_aload_n dX8_copyFrom_34 rfl ?_
  refine sx_aload_n dX8_copyFrom_35 rfl ?_
  refine sx_getI (k := 1) cl_8 fl_X8_32 dX8_copyFrom_36 Sp0 Bp0 rfl (by decide) ?_
  have r5 : (0 : Int) ≤ h4 (p) 1 ∧ h4 (p) 1 ≤ 24 := (okc_of (St_ok1 p hpm).1) ▸ Ih4.1.1 (p) 1
  refine sy_putI (k := 1) cl_8 fl_X8_32 dX8_copyFrom_39 So0 Bo0 rfl (by decide) rfl rfl (fun h6 eh6 => ?_)
  have Ih6 := Ih4.up eh6 ((okc_of (St_ok1 o hom).1) ▸ (show (0 : Int) ≤ _ ∧ _ ≤ (24 : Int) from ⟨by omega, by omega⟩)) (St_sp o hom _).1.1 (St_sp o hom _).2.1
  refine sx_aload_n dX8_copyFrom_42 rfl ?_
  refine sx_aload_n dX8_copyFrom_43 rfl ?_
  refine sx_getI (k := 3) cl_8 fl_X8_35 dX8_copyFrom_44 Sp0 Bp0 rfl (by decide) ?_
  have r7 : (0 : Int) ≤ h6 (p) 3 ∧ h6 (p) 3 ≤ 42 := (okc_of (St_ok1 p hpm).2.1) ▸ Ih6.1.1 (p) 3
  refine sy_putI (k := 3) cl_8 fl_X8_35 dX8_copyFrom_47 So0 Bo0 rfl (by decide) rfl rfl (fun h8 eh8 => ?_)
  have Ih8 := Ih6.up eh8 ((okc_of (St_ok1 o hom).2.1) ▸ (show (0 : Int) ≤ _ ∧ _ ≤ (42 : Int) from ⟨by omega, by omega⟩)) (St_sp o hom _).1.1 (St_sp o hom _).2.1
  refine sx_aload_n dX8_copyFrom_50 rfl ?_
  refine sx_aload_n dX8_copyFrom_51 rfl ?_
  refine sx_getI (k := 4) cl_8 fl_X8_21 dX8_copyFrom_52 Sp0 Bp0 rfl (by decide) ?_
  refine sy_putI (k := 4) cl_8 fl_X8_21 dX8_copyFrom_55 So0 Bo0 rfl (by decide) rfl rfl (fun h9 eh9 => ?_)
  have Ih9 := Ih8.up eh9 (okc_no (St_ok1 o hom).2.2.1) (St_sp o hom _).1.1 (St_sp o hom _).2.1
  refine sx_aload_n dX8_copyFrom_58 rfl ?_
  refine sx_aload_n dX8_copyFrom_59 rfl ?_
  refine sx_getI (k := 5) cl_8 fl_X8_25 dX8_copyFrom_60 Sp0 Bp0 rfl (by decide) ?_
  refine sy_putI (k := 5) cl_8 fl_X8_25 dX8_copyFrom_63 So0 Bo0 rfl (by decide) rfl rfl (fun h10 eh10 => ?_)
  have Ih10 := Ih9.up eh10 (okc_no (St_ok1 o hom).2.2.2) (St_sp o hom _).1.1 (St_sp o hom _).2.1
  refine sx_ret dX8_copyFrom_66 ?_
  exact ⟨rfl, Ih10⟩
set_option maxRecDepth 20000 in
set_option maxHeartbeats 4000000 in
theorem c_X8_hasSameCells {G : sw_G} (d : Nat) {h0 : sw_H} (hJ : cJ h0) (o : Nat) (hom : o ∈ stL) (p : Nat) (hpm : p ∈ stL) : sw_E G NH SH (d) mX8_hasSameCells 0 [some (sw_r o), some (sw_r p), none] [] h0 (sw_Qz (fun z h' => cK prS h0 h')) := by
  have hI : cK prS h0 h0 := cK.refl hJ
  obtain ⟨So0, So1, So2, bo⟩ := s_St o hom
  have Bo0 : o < NH := show o < 290 by omega
  have Bo1 : o + 1 < NH := show o + 1 < 290 by omega
  have Bo2 : o + 2 < NH := show o + 2 < 290 by omega
  obtain ⟨Sp0, Sp1, Sp2, bp⟩ := s_St p hpm
  have Bp0 : p < NH := show p < 290 by omega
  have Bp1 : p + 1 < NH := show p + 1 < 290 by omega
  have Bp2 : p + 2 < NH := show p + 2 < 290 by omega
  refine sx_aload_n dX8_hasSameCells_0 rfl ?_
  refine sx_getI (k := 1) cl_8 fl_X8_32 dX8_hasSameCells_1 So0 Bo0 rfl (by decide) ?_
  have r1 : (0 : Int) ≤ h0 (o) 1 ∧ h0 (o) 1 ≤ 24 := (okc_of (St_ok1 o hom).1) ▸ hI.1.1 (o) 1
  refine sx_aload_n dX8_hasSameCells_4 rfl ?_
  refine sx_getI (k := 1) cl_8 fl_X8_32 dX8_hasSameCells_5 Sp0 Bp0 rfl (by decide) ?_
  have r2 : (0 : Int) ≤ h0 (p) 1 ∧ h0 (p) 1 ≤ 24 := (okc_of (St_ok1 p hpm).1) ▸ hI.1.1 (p) 1
  refine sx_icmp_eq (tgt := 13) dX8_hasSameCells_8 (by decide) (fun c3 => ?_) (fun c3 => ?_)
  ·
    refine sx_iconst dX8_hasSameCells_13 ⟨by decide, by decide⟩ ?_
    refine sx_istore_n dX8_hasSameCells_14 (by decide) ?_
    refine sx_loop1 (fun (h : sw_H) (i : Int) => (cK prS h0 h) ∧ (0 ≤ i) ∧ (h (o) 1 = h0 o 1) ∧ (h p 1 = h0 o 1) ∧ (h0 o 1 ≤ 24)) (fun (h : sw_H) (i : Int) => (24 - i).toNat) (fun (h : sw_H) (i : Int) => sw_E G NH SH (d) mX8_hasSameCells 15 [some (sw_r (o)), some (sw_r (p)), some (sw_i i)] [] h (sw_Qz (fun z h' => cK prS h0 h'))) ?_ _ _ ?_
    · rintro h4 i_5 ⟨Ih4, j6, j7, j8, j9⟩ ihh4
      try dsimp only at ihh4
      refine sx_iload_n dX8_hasSameCells_15 rfl ?_
      refine sx_aload_n dX8_hasSameCells_16 rfl ?_
      refine sx_getI (k := 1) cl_8 fl_X8_32 dX8_hasSameCells_17 So0 Bo0 rfl (by decide) ?_
      have r10 : (0 : Int) ≤ h4 (o) 1 ∧ h4 (o) 1 ≤ 24 := (okc_of (St_ok1 o hom).1) ▸ Ih4.1.1 (o) 1
      refine sx_icmp_ge (tgt := 46) dX8_hasSameCells_20 (by decide) (fun c11 => ?_) (fun c11 => ?_)
      ·
        refine sx_iconst dX8_hasSameCells_46 ⟨by decide, by decide⟩ ?_
        refine sx_ireturn dX8_hasSameCells_47 ?_
        exact ⟨_, rfl, by omega, Ih4⟩
      ·
        refine sx_aload_n dX8_hasSameCells_23 rfl ?_
        refine sx_getS (k := 0) (t := o + 1) cl_8 fl_X8_9 dX8_hasSameCells_24 So0 Bo0 rfl (by decide) ?_
        refine sx_iload_n dX8_hasSameCells_27 rfl ?_
        refine sx_iaload dX8_hasSameCells_28 So1 Bo1 (by decide) ⟨by omega, by omega⟩ ?_
        refine sx_aload_n dX8_hasSameCells_29 rfl ?_
        refine sx_getS (k := 0) (t := p + 1) cl_8 fl_X8_9 dX8_hasSameCells_30 Sp0 Bp0 rfl (by decide) ?_
        refine sx_iload_n dX8_hasSameCells_33 rfl ?_
        refine sx_iaload dX8_hasSameCells_34 Sp1 Bp1 (by decide) ⟨by omega, by omega⟩ ?_
        refine sx_icmp_eq (tgt := 40) dX8_hasSameCells_35 (by decide) (fun c12 => ?_) (fun c12 => ?_)
        ·
          refine sx_iinc dX8_hasSameCells_40 (by decide) rfl ?_
          rw [sw_w_id (by omega) (by omega)]
          refine sx_goto (tgt := 15) dX8_hasSameCells_43 (by decide) ?_
          exact ihh4 _ _ ⟨Ih4, by omega, by omega, by omega, by omega⟩ (by exact sy_dec (by omega) (by omega))
        ·
          refine sx_iconst dX8_hasSameCells_38 ⟨by decide, by decide⟩ ?_
          refine sx_ireturn dX8_hasSameCells_39 ?_
          exact ⟨_, rfl, by omega, Ih4⟩
    · exact ⟨hI, by omega, by omega, by omega, by omega⟩
  ·
    refine sx_iconst dX8_hasSameCells_11 ⟨by decide, by decide⟩ ?_
    refine sx_ireturn dX8_hasSameCells_12 ?_
    exact ⟨_, rfl, by omega, hI⟩
set_option maxRecDepth 20000 in
set_option maxHeartbeats 4000000 in
theorem c_X8_perform {G : sw_G} (d : Nat) {h0 : sw_H} (hJ : cJ h0) (o : Nat) (hom : o ∈ stL) (t : Int) : sw_E G NH SH (d) mX8_perform 0 [some (sw_r o), some (sw_i t), none, none, none, none, none, none] [] h0 (sw_Qv (fun h' => cK prS h0 h')) := by
  have hI : cK prS h0 h0 := cK.refl hJ
  obtain ⟨So0, So1, So2, bo⟩ := s_St o hom
  have Bo0 : o < NH := show o < 290 by omega
  have Bo1 : o + 1 < NH := show o + 1 < 290 by omega
  have Bo2 : o + 2 < NH := show o + 2 < 290 by omega
  refine sx_iload_n dX8_perform_0 rfl ?_
  refine sx_if_lt (tgt := 43) dX8_perform_1 (by decide) (fun c1 => ?_) (fun c1 => ?_)
  ·
    refine sx_ret dX8_perform_43 ?_
    exact ⟨rfl, hI⟩
  ·
    refine sx_iload_n dX8_perform_4 rfl ?_
    refine sx_bipush dX8_perform_5 ⟨by decide, by decide, by decide⟩ ?_
    refine sx_icmp_ge (tgt := 43) dX8_perform_7 (by decide) (fun c2 => ?_) (fun c2 => ?_)
    ·
      refine sx_ret dX8_perform_43 ?_
      exact ⟨rfl, hI⟩
    ·
      refine sx_aload_n dX8_perform_10 rfl ?_
      refine sx_getI (k := 1) cl_8 fl_X8_32 dX8_perform_11 So0 Bo0 rfl (by decide) ?_
      have r3 : (0 : Int) ≤ h0 (o) 1 ∧ h0 (o) 1 ≤ 24 := (okc_of (St_ok1 o hom).1) ▸ hI.1.1 (o) 1
      refine sx_gets (t := 0) (by decide) sl_X8_44 dX8_perform_14 ?_
      refine sx_iload_n dX8_perform_17 rfl ?_
      refine sy_sia (t := 0) (n := 15) (by decide) dX8_perform_18 rfl ⟨by omega, by omega⟩ (fun r4 => ?_)
      refine sx_icmp_lt (tgt := 43) dX8_perform_19 (by decide) (fun c5 => ?_) (fun c5 => ?_)
      ·
        refine sx_ret dX8_perform_43 ?_
        exact ⟨rfl, hI⟩
      ·
        refine sx_aload_n dX8_perform_22 rfl ?_
        refine sx_getI (k := 1) cl_8 fl_X8_32 dX8_perform_23 So0 Bo0 rfl (by decide) ?_
        have r6 : (0 : Int) ≤ h0 (o) 1 ∧ h0 (o) 1 ≤ 24 := (okc_of (St_ok1 o hom).1) ▸ hI.1.1 (o) 1
        refine sx_gets (t := 0) (by decide) sl_X8_44 dX8_perform_26 ?_
        refine sx_iload_n dX8_perform_29 rfl ?_
        refine sy_sia (t := 0) (n := 15) (by decide) dX8_perform_30 rfl ⟨by omega, by omega⟩ (fun r7 => ?_)
        refine sx_isub dX8_perform_31 ?_
        refine sy_topw (by omega) ?_
        refine sx_gets (t := 1) (by decide) sl_X8_47 dX8_perform_32 ?_
        refine sx_iload_n dX8_perform_35 rfl ?_
        refine sy_sia (t := 1) (n := 15) (by decide) dX8_perform_36 rfl ⟨by omega, by omega⟩ (fun r8 => ?_)
        refine sx_iadd dX8_perform_37 ?_
        refine sy_topw (by omega) ?_
        refine sx_bipush dX8_perform_38 ⟨by decide, by decide, by decide⟩ ?_
        refine sx_icmp_le (tgt := 44) dX8_perform_40 (by decide) (fun c9 => ?_) (fun c9 => ?_)
        ·
          have J68_n10 : ∀ (a : Int) , sw_E G NH SH (d) mX8_perform 68 [some (sw_r (o)), some (sw_i t), some (sw_i a), none, none, none, none, none] [] h0 (sw_Qv (fun h' => cK prS h0 h')) := by
            intro a_11
            have J92_n12 : ∀ (b : Int) , sw_E G NH SH (d) mX8_perform 92 [some (sw_r (o)), some (sw_i t), some (sw_i a_11), some (sw_i b), none, none, none, none] [] h0 (sw_Qv (fun h' => cK prS h0 h')) := by
              intro b_13
              have J117_n14 : ∀ (c : Int) , sw_E G NH SH (d) mX8_perform 117 [some (sw_r (o)), some (sw_i t), some (sw_i a_11), some (sw_i b_13), some (sw_i c), none, none, none] [] h0 (sw_Qv (fun h' => cK prS h0 h')) := by
                intro c_15
                refine sx_aload_n dX8_perform_117 rfl ?_
                refine sx_getI (k := 1) cl_8 fl_X8_32 dX8_perform_118 So0 Bo0 rfl (by decide) ?_
                have r16 : (0 : Int) ≤ h0 (o) 1 ∧ h0 (o) 1 ≤ 24 := (okc_of (St_ok1 o hom).1) ▸ hI.1.1 (o) 1
                refine sx_gets (t := 0) (by decide) sl_X8_44 dX8_perform_121 ?_
                refine sx_iload_n dX8_perform_124 rfl ?_
                refine sy_sia (t := 0) (n := 15) (by decide) dX8_perform_125 rfl ⟨by omega, by omega⟩ (fun r17 => ?_)
                refine sx_isub dX8_perform_126 ?_
                refine sy_topw (by omega) ?_
                refine sy_top (fun v18 ev18 => ?_)
                refine sx_istore dX8_perform_127 (by decide) ?_
                refine sx_aload_n dX8_perform_129 rfl ?_
                refine sx_iload dX8_perform_130 rfl ?_
                refine sx_gets (t := 1) (by decide) sl_X8_47 dX8_perform_132 ?_
                refine sx_iload_n dX8_perform_135 rfl ?_
                refine sy_sia (t := 1) (n := 15) (by decide) dX8_perform_136 rfl ⟨by omega, by omega⟩ (fun r19 => ?_)
                refine sx_iadd dX8_perform_137 ?_
                refine sy_topw (by omega) ?_
                refine sy_putI (k := 1) cl_8 fl_X8_32 dX8_perform_138 So0 Bo0 rfl (by decide) rfl rfl (fun h20 eh20 => ?_)
                have Ih20 := hI.up eh20 ((okc_of (St_ok1 o hom).1) ▸ (show (0 : Int) ≤ _ ∧ _ ≤ (24 : Int) from ⟨by omega, by omega⟩)) (St_sp o hom _).1.1 (St_sp o hom _).2.1
                have th20_o_1 := eh20.1
                have th20_o_3 := eh20.2 (o) 3 (by omega)
                refine sx_iload_n dX8_perform_141 rfl ?_
                refine sx_bipush dX8_perform_142 ⟨by decide, by decide, by decide⟩ ?_
                refine sx_icmp_ge (tgt := 210) dX8_perform_144 (by decide) (fun c21 => ?_) (fun c21 => ?_)
                ·
                  refine sx_iload_n dX8_perform_210 rfl ?_
                  have q8 := sd_on1 t
                  refine sx_tsw (dt := 439) (ts := [256, 289, 342, 356, 370, 384, 397, 418]) dX8_perform_211 (by decide) (by decide) (by decide) (fun c22 => ?_) (And.intro (fun c22 => ?_) (And.intro (fun c22 => ?_) (And.intro (fun c22 => ?_) (And.intro (fun c22 => ?_) (And.intro (fun c22 => ?_) (And.intro (fun c22 => ?_) (And.intro (fun c22 => ?_) (And.intro (fun c22 => ?_) trivial))))))))
                  ·
                    refine sx_ret dX8_perform_439 ?_
                    exact ⟨rfl, Ih20⟩
                  ·
                    refine sx_aload_n dX8_perform_256 rfl ?_
                    refine sx_getI (k := 3) cl_8 fl_X8_35 dX8_perform_257 So0 Bo0 rfl (by decide) ?_
                    have r23 : (0 : Int) ≤ h20 (o) 3 ∧ h20 (o) 3 ≤ 42 := (okc_of (St_ok1 o hom).2.1) ▸ Ih20.1.1 (o) 3
                    refine sx_bipush dX8_perform_260 ⟨by decide, by decide, by decide⟩ ?_
                    refine sx_icmp_ge (tgt := 439) dX8_perform_262 (by decide) (fun c24 => ?_) (fun c24 => ?_)
                    ·
                      refine sx_ret dX8_perform_439 ?_
                      exact ⟨rfl, Ih20⟩
                    ·
                      refine sx_aload_n dX8_perform_265 rfl ?_
                      refine sx_getS (k := 2) (t := o + 2) cl_8 fl_X8_15 dX8_perform_266 So0 Bo0 rfl (by decide) ?_
                      refine sx_aload_n dX8_perform_269 rfl ?_
                      refine sx_getI (k := 3) cl_8 fl_X8_35 dX8_perform_270 So0 Bo0 rfl (by decide) ?_
                      have r25 : (0 : Int) ≤ h20 (o) 3 ∧ h20 (o) 3 ≤ 42 := (okc_of (St_ok1 o hom).2.1) ▸ Ih20.1.1 (o) 3
                      refine sx_iload dX8_perform_273 rfl ?_
                      refine sy_iastore dX8_perform_275 So2 Bo2 (by decide) ⟨by omega, by omega⟩ (fun h26 eh26 => ?_)
                      have Ih26 := Ih20.up eh26 (St_oka o hom _ _).2 (St_sp o hom _).1.2.2 (St_sp o hom _).2.2.2
                      have th26_o_1 := eh26.2 (o) 1 (by omega)
                      have th26_o_3 := eh26.2 (o) 3 (by omega)
                      refine sx_aload_n dX8_perform_276 rfl ?_
                      refine sx_dupr dX8_perform_277 ?_
                      refine sx_getI (k := 3) cl_8 fl_X8_35 dX8_perform_278 So0 Bo0 rfl (by decide) ?_
                      have r27 : (0 : Int) ≤ h26 (o) 3 ∧ h26 (o) 3 ≤ 42 := (okc_of (St_ok1 o hom).2.1) ▸ Ih26.1.1 (o) 3
                      refine sx_iconst dX8_perform_281 ⟨by decide, by decide⟩ ?_
                      refine sx_iadd dX8_perform_282 ?_
                      refine sy_topw (by omega) ?_
                      refine sy_putI (k := 3) cl_8 fl_X8_35 dX8_perform_283 So0 Bo0 rfl (by decide) rfl rfl (fun h28 eh28 => ?_)
                      have Ih28 := Ih26.up eh28 ((okc_of (St_ok1 o hom).2.1) ▸ (show (0 : Int) ≤ _ ∧ _ ≤ (42 : Int) from ⟨by omega, by omega⟩)) (St_sp o hom _).1.1 (St_sp o hom _).2.1
                      have th28_o_1 := eh28.2 (o) 1 (by omega)
                      have th28_o_3 := eh28.1
                      refine sx_goto (tgt := 439) dX8_perform_286 (by decide) ?_
                      refine sx_ret dX8_perform_439 ?_
                      exact ⟨rfl, Ih28⟩
                  ·
                    have J318_n29 : ∀ (h : sw_H) , (cK prS h0 h) → sw_E G NH SH (d) mX8_perform 318 [some (sw_r (o)), some (sw_i t), some (sw_i a_11), some (sw_i b_13), some (sw_i c_15), some (sw_i v18), none, none] [] h (sw_Qv (fun h' => cK prS h0 h')) := by
                      intro h30 Ih30
                      refine sx_aload_n dX8_perform_318 rfl ?_
                      refine sx_aload_n dX8_perform_319 rfl ?_
                      refine sx_getI (k := 3) cl_8 fl_X8_35 dX8_perform_320 So0 Bo0 rfl (by decide) ?_
                      have r31 : (0 : Int) ≤ h30 (o) 3 ∧ h30 (o) 3 ≤ 42 := (okc_of (St_ok1 o hom).2.1) ▸ Ih30.1.1 (o) 3
                      refine sx_if_le (tgt := 335) dX8_perform_323 (by decide) (fun c32 => ?_) (fun c32 => ?_)
                      ·
                        refine sx_iconst dX8_perform_335 ⟨by decide, by decide⟩ ?_
                        refine sy_putI (k := 3) cl_8 fl_X8_35 dX8_perform_336 So0 Bo0 rfl (by decide) rfl rfl (fun h33 eh33 => ?_)
                        have Ih33 := Ih30.up eh33 ((okc_of (St_ok1 o hom).2.1) ▸ (show (0 : Int) ≤ _ ∧ _ ≤ (42 : Int) from ⟨by omega, by omega⟩)) (St_sp o hom _).1.1 (St_sp o hom _).2.1
                        have th33_o_1 := eh33.2 (o) 1 (by omega)
                        have th33_o_3 := eh33.1
                        refine sx_goto (tgt := 439) dX8_perform_339 (by decide) ?_
                        refine sx_ret dX8_perform_439 ?_
                        exact ⟨rfl, Ih33⟩
                      ·
                        refine sx_aload_n dX8_perform_326 rfl ?_
                        refine sx_getI (k := 3) cl_8 fl_X8_35 dX8_perform_327 So0 Bo0 rfl (by decide) ?_
                        have r34 : (0 : Int) ≤ h30 (o) 3 ∧ h30 (o) 3 ≤ 42 := (okc_of (St_ok1 o hom).2.1) ▸ Ih30.1.1 (o) 3
                        refine sx_iconst dX8_perform_330 ⟨by decide, by decide⟩ ?_
                        refine sx_isub dX8_perform_331 ?_
                        refine sy_topw (by omega) ?_
                        refine sx_goto (tgt := 336) dX8_perform_332 (by decide) ?_
                        refine sy_putI (k := 3) cl_8 fl_X8_35 dX8_perform_336 So0 Bo0 rfl (by decide) rfl rfl (fun h35 eh35 => ?_)
                        have Ih35 := Ih30.up eh35 ((okc_of (St_ok1 o hom).2.1) ▸ (show (0 : Int) ≤ _ ∧ _ ≤ (42 : Int) from ⟨by omega, by omega⟩)) (St_sp o hom _).1.1 (St_sp o hom _).2.1
                        have th35_o_1 := eh35.2 (o) 1 (by omega)
                        have th35_o_3 := eh35.1
                        refine sx_goto (tgt := 439) dX8_perform_339 (by decide) ?_
                        refine sx_ret dX8_perform_439 ?_
                        exact ⟨rfl, Ih35⟩
                    refine sx_aload_n dX8_perform_289 rfl ?_
                    refine sx_getS (k := 0) (t := o + 1) cl_8 fl_X8_9 dX8_perform_290 So0 Bo0 rfl (by decide) ?_
                    refine sx_iload dX8_perform_293 rfl ?_
                    refine sx_aload_n dX8_perform_295 rfl ?_
                    refine sx_getI (k := 3) cl_8 fl_X8_35 dX8_perform_296 So0 Bo0 rfl (by decide) ?_
                    have r36 : (0 : Int) ≤ h20 (o) 3 ∧ h20 (o) 3 ≤ 42 := (okc_of (St_ok1 o hom).2.1) ▸ Ih20.1.1 (o) 3
                    refine sx_if_le (tgt := 316) dX8_perform_299 (by decide) (fun c37 => ?_) (fun c37 => ?_)
                    ·
                      refine sx_iconst dX8_perform_316 ⟨by decide, by decide⟩ ?_
                      refine sy_iastore dX8_perform_317 So1 Bo1 (by decide) ⟨by omega, by omega⟩ (fun h38 eh38 => ?_)
                      have Ih38 := Ih20.up eh38 (St_oka o hom _ _).1 (St_sp o hom _).1.2.1 (St_sp o hom _).2.2.1
                      have th38_o_1 := eh38.2 (o) 1 (by omega)
                      have th38_o_3 := eh38.2 (o) 3 (by omega)
                      exact J318_n29 _ Ih38 
                    ·
                      refine sx_aload_n dX8_perform_302 rfl ?_
                      refine sx_getS (k := 2) (t := o + 2) cl_8 fl_X8_15 dX8_perform_303 So0 Bo0 rfl (by decide) ?_
                      refine sx_aload_n dX8_perform_306 rfl ?_
                      refine sx_getI (k := 3) cl_8 fl_X8_35 dX8_perform_307 So0 Bo0 rfl (by decide) ?_
                      have r39 : (0 : Int) ≤ h20 (o) 3 ∧ h20 (o) 3 ≤ 42 := (okc_of (St_ok1 o hom).2.1) ▸ Ih20.1.1 (o) 3
                      refine sx_iconst dX8_perform_310 ⟨by decide, by decide⟩ ?_
                      refine sx_isub dX8_perform_311 ?_
                      refine sy_topw (by omega) ?_
                      refine sx_iaload dX8_perform_312 So2 Bo2 (by decide) ⟨by omega, by omega⟩ ?_
                      refine sx_goto (tgt := 317) dX8_perform_313 (by decide) ?_
                      refine sy_iastore dX8_perform_317 So1 Bo1 (by decide) ⟨by omega, by omega⟩ (fun h40 eh40 => ?_)
                      have Ih40 := Ih20.up eh40 (St_oka o hom _ _).1 (St_sp o hom _).1.2.1 (St_sp o hom _).2.2.1
                      have th40_o_1 := eh40.2 (o) 1 (by omega)
                      have th40_o_3 := eh40.2 (o) 3 (by omega)
                      exact J318_n29 _ Ih40 
                  ·
                    refine sx_aload_n dX8_perform_342 rfl ?_
                    refine sx_getS (k := 0) (t := o + 1) cl_8 fl_X8_9 dX8_perform_343 So0 Bo0 rfl (by decide) ?_
                    refine sx_iload dX8_perform_346 rfl ?_
                    refine sx_iload_n dX8_perform_348 rfl ?_
                    refine sx_iload dX8_perform_349 rfl ?_
                    refine sx_iadd dX8_perform_351 ?_
                    refine sy_iastore dX8_perform_352 So1 Bo1 (by decide) ⟨by omega, by omega⟩ (fun h41 eh41 => ?_)
                    have Ih41 := Ih20.up eh41 (St_oka o hom _ _).1 (St_sp o hom _).1.2.1 (St_sp o hom _).2.2.1
                    have th41_o_1 := eh41.2 (o) 1 (by omega)
                    have th41_o_3 := eh41.2 (o) 3 (by omega)
                    refine sx_goto (tgt := 439) dX8_perform_353 (by decide) ?_
                    refine sx_ret dX8_perform_439 ?_
                    exact ⟨rfl, Ih41⟩
                  ·
                    refine sx_aload_n dX8_perform_356 rfl ?_
                    refine sx_getS (k := 0) (t := o + 1) cl_8 fl_X8_9 dX8_perform_357 So0 Bo0 rfl (by decide) ?_
                    refine sx_iload dX8_perform_360 rfl ?_
                    refine sx_iload_n dX8_perform_362 rfl ?_
                    refine sx_iload dX8_perform_363 rfl ?_
                    refine sx_isub dX8_perform_365 ?_
                    refine sy_iastore dX8_perform_366 So1 Bo1 (by decide) ⟨by omega, by omega⟩ (fun h42 eh42 => ?_)
                    have Ih42 := Ih20.up eh42 (St_oka o hom _ _).1 (St_sp o hom _).1.2.1 (St_sp o hom _).2.2.1
                    have th42_o_1 := eh42.2 (o) 1 (by omega)
                    have th42_o_3 := eh42.2 (o) 3 (by omega)
                    refine sx_goto (tgt := 439) dX8_perform_367 (by decide) ?_
                    refine sx_ret dX8_perform_439 ?_
                    exact ⟨rfl, Ih42⟩
                  ·
                    refine sx_aload_n dX8_perform_370 rfl ?_
                    refine sx_getS (k := 0) (t := o + 1) cl_8 fl_X8_9 dX8_perform_371 So0 Bo0 rfl (by decide) ?_
                    refine sx_iload dX8_perform_374 rfl ?_
                    refine sx_iload_n dX8_perform_376 rfl ?_
                    refine sx_iload dX8_perform_377 rfl ?_
                    refine sx_imul dX8_perform_379 ?_
                    refine sy_iastore dX8_perform_380 So1 Bo1 (by decide) ⟨by omega, by omega⟩ (fun h43 eh43 => ?_)
                    have Ih43 := Ih20.up eh43 (St_oka o hom _ _).1 (St_sp o hom _).1.2.1 (St_sp o hom _).2.2.1
                    have th43_o_1 := eh43.2 (o) 1 (by omega)
                    have th43_o_3 := eh43.2 (o) 3 (by omega)
                    refine sx_goto (tgt := 439) dX8_perform_381 (by decide) ?_
                    refine sx_ret dX8_perform_439 ?_
                    exact ⟨rfl, Ih43⟩
                  ·
                    refine sx_aload_n dX8_perform_384 rfl ?_
                    refine sx_getS (k := 0) (t := o + 1) cl_8 fl_X8_9 dX8_perform_385 So0 Bo0 rfl (by decide) ?_
                    refine sx_iload dX8_perform_388 rfl ?_
                    refine sx_iload dX8_perform_390 rfl ?_
                    refine sx_ineg dX8_perform_392 ?_
                    refine sy_iastore dX8_perform_393 So1 Bo1 (by decide) ⟨by omega, by omega⟩ (fun h44 eh44 => ?_)
                    have Ih44 := Ih20.up eh44 (St_oka o hom _ _).1 (St_sp o hom _).1.2.1 (St_sp o hom _).2.2.1
                    have th44_o_1 := eh44.2 (o) 1 (by omega)
                    have th44_o_3 := eh44.2 (o) 3 (by omega)
                    refine sx_goto (tgt := 439) dX8_perform_394 (by decide) ?_
                    refine sx_ret dX8_perform_439 ?_
                    exact ⟨rfl, Ih44⟩
                  ·
                    refine sx_aload_n dX8_perform_397 rfl ?_
                    refine sx_getS (k := 0) (t := o + 1) cl_8 fl_X8_9 dX8_perform_398 So0 Bo0 rfl (by decide) ?_
                    refine sx_iload dX8_perform_401 rfl ?_
                    refine sx_iload_n dX8_perform_403 rfl ?_
                    refine sx_iload dX8_perform_404 rfl ?_
                    refine sx_icmp_ge (tgt := 413) dX8_perform_406 (by decide) (fun c45 => ?_) (fun c45 => ?_)
                    ·
                      refine sx_iconst dX8_perform_413 ⟨by decide, by decide⟩ ?_
                      refine sy_iastore dX8_perform_414 So1 Bo1 (by decide) ⟨by omega, by omega⟩ (fun h46 eh46 => ?_)
                      have Ih46 := Ih20.up eh46 (St_oka o hom _ _).1 (St_sp o hom _).1.2.1 (St_sp o hom _).2.2.1
                      have th46_o_1 := eh46.2 (o) 1 (by omega)
                      have th46_o_3 := eh46.2 (o) 3 (by omega)
                      refine sx_goto (tgt := 439) dX8_perform_415 (by decide) ?_
                      refine sx_ret dX8_perform_439 ?_
                      exact ⟨rfl, Ih46⟩
                    ·
                      refine sx_iconst dX8_perform_409 ⟨by decide, by decide⟩ ?_
                      refine sx_goto (tgt := 414) dX8_perform_410 (by decide) ?_
                      refine sy_iastore dX8_perform_414 So1 Bo1 (by decide) ⟨by omega, by omega⟩ (fun h47 eh47 => ?_)
                      have Ih47 := Ih20.up eh47 (St_oka o hom _ _).1 (St_sp o hom _).1.2.1 (St_sp o hom _).2.2.1
                      have th47_o_1 := eh47.2 (o) 1 (by omega)
                      have th47_o_3 := eh47.2 (o) 3 (by omega)
                      refine sx_goto (tgt := 439) dX8_perform_415 (by decide) ?_
                      refine sx_ret dX8_perform_439 ?_
                      exact ⟨rfl, Ih47⟩
                  ·
                    refine sx_aload_n dX8_perform_418 rfl ?_
                    refine sx_getS (k := 0) (t := o + 1) cl_8 fl_X8_9 dX8_perform_419 So0 Bo0 rfl (by decide) ?_
                    refine sx_iload dX8_perform_422 rfl ?_
                    refine sx_iload_n dX8_perform_424 rfl ?_
                    refine sx_iload dX8_perform_425 rfl ?_
                    refine sx_icmp_ne (tgt := 434) dX8_perform_427 (by decide) (fun c48 => ?_) (fun c48 => ?_)
                    ·
                      refine sx_iconst dX8_perform_434 ⟨by decide, by decide⟩ ?_
                      refine sy_iastore dX8_perform_435 So1 Bo1 (by decide) ⟨by omega, by omega⟩ (fun h49 eh49 => ?_)
                      have Ih49 := Ih20.up eh49 (St_oka o hom _ _).1 (St_sp o hom _).1.2.1 (St_sp o hom _).2.2.1
                      have th49_o_1 := eh49.2 (o) 1 (by omega)
                      have th49_o_3 := eh49.2 (o) 3 (by omega)
                      refine sx_goto (tgt := 439) dX8_perform_436 (by decide) ?_
                      refine sx_ret dX8_perform_439 ?_
                      exact ⟨rfl, Ih49⟩
                    ·
                      refine sx_iconst dX8_perform_430 ⟨by decide, by decide⟩ ?_
                      refine sx_goto (tgt := 435) dX8_perform_431 (by decide) ?_
                      refine sy_iastore dX8_perform_435 So1 Bo1 (by decide) ⟨by omega, by omega⟩ (fun h50 eh50 => ?_)
                      have Ih50 := Ih20.up eh50 (St_oka o hom _ _).1 (St_sp o hom _).1.2.1 (St_sp o hom _).2.2.1
                      have th50_o_1 := eh50.2 (o) 1 (by omega)
                      have th50_o_3 := eh50.2 (o) 3 (by omega)
                      refine sx_goto (tgt := 439) dX8_perform_436 (by decide) ?_
                      refine sx_ret dX8_perform_439 ?_
                      exact ⟨rfl, Ih50⟩
                ·
                  skip
                  refine sx_iconst dX8_perform_147 ⟨by decide, by decide⟩ ?_
                  refine sx_istore dX8_perform_148 (by decide) ?_
                  refine sx_loop1 (fun (h : sw_H) (i : Int) => (cK prS h0 h) ∧ (0 ≤ i)) (fun (h : sw_H) (i : Int) => (3 - i).toNat) (fun (h : sw_H) (i : Int) => sw_E G NH SH (d) mX8_perform 150 [some (sw_r (o)), some (sw_i t), some (sw_i a_11), some (sw_i b_13), some (sw_i c_15), some (sw_i v18), some (sw_i i), none] [] h (sw_Qv (fun h' => cK prS h0 h'))) ?_ _ _ ?_
                  · rintro h51 i_52 ⟨Ih51, j53⟩ ihh51
                    try dsimp only at ihh51
                    refine sx_iload dX8_perform_150 rfl ?_
                    refine sx_gets (t := 1) (by decide) sl_X8_47 dX8_perform_152 ?_
                    refine sx_iload_n dX8_perform_155 rfl ?_
                    refine sy_sia (t := 1) (n := 15) (by decide) dX8_perform_156 rfl ⟨by omega, by omega⟩ (fun r54 => ?_)
                    refine sx_icmp_ge (tgt := 209) dX8_perform_157 (by decide) (fun c55 => ?_) (fun c55 => ?_)
                    ·
                      refine sx_ret dX8_perform_209 ?_
                      exact ⟨rfl, Ih51⟩
                    ·
                      refine sx_gets (t := 2) (by decide) sl_X8_50 dX8_perform_160 ?_
                      refine sx_iload_n dX8_perform_163 rfl ?_
                      refine sx_iconst dX8_perform_164 ⟨by decide, by decide⟩ ?_
                      refine sx_imul dX8_perform_165 ?_
                      refine sy_topw (by omega) ?_
                      refine sx_iload dX8_perform_166 rfl ?_
                      refine sx_iadd dX8_perform_168 ?_
                      refine sy_topw (by omega) ?_
                      refine sy_sia (t := 2) (n := 21) (by decide) dX8_perform_169 rfl ⟨by omega, by omega⟩ (fun r56 => ?_)
                      refine sy_top (fun v57 ev57 => ?_)
                      refine sx_istore dX8_perform_170 (by decide) ?_
                      refine sx_aload_n dX8_perform_172 rfl ?_
                      refine sx_getS (k := 0) (t := o + 1) cl_8 fl_X8_9 dX8_perform_173 So0 Bo0 rfl (by decide) ?_
                      refine sx_iload dX8_perform_176 rfl ?_
                      refine sx_iload dX8_perform_178 rfl ?_
                      refine sx_iadd dX8_perform_180 ?_
                      refine sy_topw (by omega) ?_
                      refine sx_iload dX8_perform_181 rfl ?_
                      refine sx_if_ne (tgt := 191) dX8_perform_183 (by decide) (fun c58 => ?_) (fun c58 => ?_)
                      ·
                        refine sx_iload dX8_perform_191 rfl ?_
                        refine sx_iconst dX8_perform_193 ⟨by decide, by decide⟩ ?_
                        refine sx_icmp_ne (tgt := 201) dX8_perform_194 (by decide) (fun c59 => ?_) (fun c59 => ?_)
                        ·
                          refine sx_iload_n dX8_perform_201 rfl ?_
                          refine sy_iastore dX8_perform_202 So1 Bo1 (by decide) ⟨by omega, by omega⟩ (fun h60 eh60 => ?_)
                          have Ih60 := Ih51.up eh60 (St_oka o hom _ _).1 (St_sp o hom _).1.2.1 (St_sp o hom _).2.2.1
                          have th60_o_1 := eh60.2 (o) 1 (by omega)
                          have th60_o_3 := eh60.2 (o) 3 (by omega)
                          refine sx_iinc dX8_perform_203 (by decide) rfl ?_
                          rw [sw_w_id (by omega) (by omega)]
                          refine sx_goto (tgt := 150) dX8_perform_206 (by decide) ?_
                          refine sx_kill 7 ?_
                          exact ihh51 _ _ ⟨Ih60, by omega⟩ (by exact sy_dec (by omega) (by omega))
                        ·
                          refine sx_iload_n dX8_perform_197 rfl ?_
                          refine sx_goto (tgt := 202) dX8_perform_198 (by decide) ?_
                          refine sy_iastore dX8_perform_202 So1 Bo1 (by decide) ⟨by omega, by omega⟩ (fun h61 eh61 => ?_)
                          have Ih61 := Ih51.up eh61 (St_oka o hom _ _).1 (St_sp o hom _).1.2.1 (St_sp o hom _).2.2.1
                          have th61_o_1 := eh61.2 (o) 1 (by omega)
                          have th61_o_3 := eh61.2 (o) 3 (by omega)
                          refine sx_iinc dX8_perform_203 (by decide) rfl ?_
                          rw [sw_w_id (by omega) (by omega)]
                          refine sx_goto (tgt := 150) dX8_perform_206 (by decide) ?_
                          refine sx_kill 7 ?_
                          exact ihh51 _ _ ⟨Ih61, by omega⟩ (by exact sy_dec (by omega) (by omega))
                      ·
                        refine sx_iload dX8_perform_186 rfl ?_
                        refine sx_goto (tgt := 202) dX8_perform_188 (by decide) ?_
                        refine sy_iastore dX8_perform_202 So1 Bo1 (by decide) ⟨by omega, by omega⟩ (fun h62 eh62 => ?_)
                        have Ih62 := Ih51.up eh62 (St_oka o hom _ _).1 (St_sp o hom _).1.2.1 (St_sp o hom _).2.2.1
                        have th62_o_1 := eh62.2 (o) 1 (by omega)
                        have th62_o_3 := eh62.2 (o) 3 (by omega)
                        refine sx_iinc dX8_perform_203 (by decide) rfl ?_
                        rw [sw_w_id (by omega) (by omega)]
                        refine sx_goto (tgt := 150) dX8_perform_206 (by decide) ?_
                        refine sx_kill 7 ?_
                        exact ihh51 _ _ ⟨Ih62, by omega⟩ (by exact sy_dec (by omega) (by omega))
                  · exact ⟨Ih20, by omega⟩
              refine sx_aload_n dX8_perform_92 rfl ?_
              refine sx_getI (k := 1) cl_8 fl_X8_32 dX8_perform_93 So0 Bo0 rfl (by decide) ?_
              have r63 : (0 : Int) ≤ h0 (o) 1 ∧ h0 (o) 1 ≤ 24 := (okc_of (St_ok1 o hom).1) ▸ hI.1.1 (o) 1
              refine sx_iconst dX8_perform_96 ⟨by decide, by decide⟩ ?_
              refine sx_icmp_lt (tgt := 114) dX8_perform_97 (by decide) (fun c64 => ?_) (fun c64 => ?_)
              ·
                refine sx_iconst dX8_perform_114 ⟨by decide, by decide⟩ ?_
                refine sx_istore dX8_perform_115 (by decide) ?_
                exact J117_n14 _ 
              ·
                refine sx_aload_n dX8_perform_100 rfl ?_
                refine sx_getS (k := 0) (t := o + 1) cl_8 fl_X8_9 dX8_perform_101 So0 Bo0 rfl (by decide) ?_
                refine sx_aload_n dX8_perform_104 rfl ?_
                refine sx_getI (k := 1) cl_8 fl_X8_32 dX8_perform_105 So0 Bo0 rfl (by decide) ?_
                have r65 : (0 : Int) ≤ h0 (o) 1 ∧ h0 (o) 1 ≤ 24 := (okc_of (St_ok1 o hom).1) ▸ hI.1.1 (o) 1
                refine sx_iconst dX8_perform_108 ⟨by decide, by decide⟩ ?_
                refine sx_isub dX8_perform_109 ?_
                refine sy_topw (by omega) ?_
                refine sx_iaload dX8_perform_110 So1 Bo1 (by decide) ⟨by omega, by omega⟩ ?_
                refine sx_goto (tgt := 115) dX8_perform_111 (by decide) ?_
                refine sy_top (fun v66 ev66 => ?_)
                refine sx_istore dX8_perform_115 (by decide) ?_
                exact J117_n14 _ 
            refine sx_aload_n dX8_perform_68 rfl ?_
            refine sx_getI (k := 1) cl_8 fl_X8_32 dX8_perform_69 So0 Bo0 rfl (by decide) ?_
            have r67 : (0 : Int) ≤ h0 (o) 1 ∧ h0 (o) 1 ≤ 24 := (okc_of (St_ok1 o hom).1) ▸ hI.1.1 (o) 1
            refine sx_iconst dX8_perform_72 ⟨by decide, by decide⟩ ?_
            refine sx_icmp_lt (tgt := 90) dX8_perform_73 (by decide) (fun c68 => ?_) (fun c68 => ?_)
            ·
              refine sx_iconst dX8_perform_90 ⟨by decide, by decide⟩ ?_
              refine sx_istore_n dX8_perform_91 (by decide) ?_
              exact J92_n12 _ 
            ·
              refine sx_aload_n dX8_perform_76 rfl ?_
              refine sx_getS (k := 0) (t := o + 1) cl_8 fl_X8_9 dX8_perform_77 So0 Bo0 rfl (by decide) ?_
              refine sx_aload_n dX8_perform_80 rfl ?_
              refine sx_getI (k := 1) cl_8 fl_X8_32 dX8_perform_81 So0 Bo0 rfl (by decide) ?_
              have r69 : (0 : Int) ≤ h0 (o) 1 ∧ h0 (o) 1 ≤ 24 := (okc_of (St_ok1 o hom).1) ▸ hI.1.1 (o) 1
              refine sx_iconst dX8_perform_84 ⟨by decide, by decide⟩ ?_
              refine sx_isub dX8_perform_85 ?_
              refine sy_topw (by omega) ?_
              refine sx_iaload dX8_perform_86 So1 Bo1 (by decide) ⟨by omega, by omega⟩ ?_
              refine sx_goto (tgt := 91) dX8_perform_87 (by decide) ?_
              refine sy_top (fun v70 ev70 => ?_)
              refine sx_istore_n dX8_perform_91 (by decide) ?_
              exact J92_n12 _ 
          refine sx_aload_n dX8_perform_44 rfl ?_
          refine sx_getI (k := 1) cl_8 fl_X8_32 dX8_perform_45 So0 Bo0 rfl (by decide) ?_
          have r71 : (0 : Int) ≤ h0 (o) 1 ∧ h0 (o) 1 ≤ 24 := (okc_of (St_ok1 o hom).1) ▸ hI.1.1 (o) 1
          refine sx_iconst dX8_perform_48 ⟨by decide, by decide⟩ ?_
          refine sx_icmp_lt (tgt := 66) dX8_perform_49 (by decide) (fun c72 => ?_) (fun c72 => ?_)
          ·
            refine sx_iconst dX8_perform_66 ⟨by decide, by decide⟩ ?_
            refine sx_istore_n dX8_perform_67 (by decide) ?_
            exact J68_n10 _ 
          ·
            refine sx_aload_n dX8_perform_52 rfl ?_
            refine sx_getS (k := 0) (t := o + 1) cl_8 fl_X8_9 dX8_perform_53 So0 Bo0 rfl (by decide) ?_
            refine sx_aload_n dX8_perform_56 rfl ?_
            refine sx_getI (k := 1) cl_8 fl_X8_32 dX8_perform_57 So0 Bo0 rfl (by decide) ?_
            have r73 : (0 : Int) ≤ h0 (o) 1 ∧ h0 (o) 1 ≤ 24 := (okc_of (St_ok1 o hom).1) ▸ hI.1.1 (o) 1
            refine sx_iconst dX8_perform_60 ⟨by decide, by decide⟩ ?_
            refine sx_isub dX8_perform_61 ?_
            refine sy_topw (by omega) ?_
            refine sx_iaload dX8_perform_62 So1 Bo1 (by decide) ⟨by omega, by omega⟩ ?_
            refine sx_goto (tgt := 67) dX8_perform_63 (by decide) ?_
            refine sy_top (fun v74 ev74 => ?_)
            refine sx_istore_n dX8_perform_67 (by decide) ?_
            exact J68_n10 _ 
        ·
          refine sx_ret dX8_perform_43 ?_
          exact ⟨rfl, hI⟩

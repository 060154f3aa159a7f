set_option maxRecDepth 20000 in
set_option maxHeartbeats 4000000 in
theorem c_X8_dropAll {G : sw_G} (d : Nat) {h : sw_H} (hJ : cJ h) (o : Nat) (hom : o ∈ stL)  : sw_E G NH SH (d) mX8_dropAll 0 [some (sw_r o)] [] h (sw_Qv (fun h' => cK pr0 h h')) := by
  have hI : cK pr0 h h := cK.rfl hJ
  obtain ⟨So0, So1, So2, bo⟩ := s_St o hom
  refine sx_aload_n dX8_dropAll_0 rfl ?_
  refine sx_iconst dX8_dropAll_1 ⟨by decide, by decide⟩ ?_
  refine sy_putI (k := 1) cl_8 fl_X8_32 dX8_dropAll_2 So0 (by omega) rfl (by decide) rfl rfl (fun h1 eh1 => ?_)
  have Ih1 := hI.up eh1 ((okc_of (St_ok1 o hom).1) ▸ (show (0 : Int) ≤ _ ∧ _ ≤ (24 : Int) from ⟨by omega, by omega⟩)) (St_sp o hom _).1.1 (St_sp o hom _).2.1
  refine sx_aload_n dX8_dropAll_5 rfl ?_
  refine sx_iconst dX8_dropAll_6 ⟨by decide, by decide⟩ ?_
  refine sy_putI (k := 3) cl_8 fl_X8_35 dX8_dropAll_7 So0 (by omega) rfl (by decide) rfl rfl (fun h2 eh2 => ?_)
  have Ih2 := Ih1.up eh2 ((okc_of (St_ok1 o hom).2.1) ▸ (show (0 : Int) ≤ _ ∧ _ ≤ (42 : Int) from ⟨by omega, by omega⟩)) (St_sp o hom _).1.1 (St_sp o hom _).2.1
  refine sx_ret dX8_dropAll_10 ?_
  exact ⟨rfl, Ih2⟩
set_option maxRecDepth 20000 in
set_option maxHeartbeats 4000000 in
theorem c_X8_add {G : sw_G} (d : Nat) {h : sw_H} (hJ : cJ h) (o : Nat) (hom : o ∈ stL) (n : Int) : sw_E G NH SH (d) mX8_add 0 [some (sw_r o), some (sw_i n)] [] h (sw_Qv (fun h' => cK pr0 h h')) := by
  have hI : cK pr0 h h := cK.rfl hJ
  obtain ⟨So0, So1, So2, bo⟩ := s_St o hom
  refine sx_aload_n dX8_add_0 rfl ?_
  refine sx_getI (k := 1) cl_8 fl_X8_32 dX8_add_1 So0 (by omega) rfl (by decide) ?_
  have r1 : (0 : Int) ≤ h (o) 1 ∧ h (o) 1 ≤ 24 := (okc_of (St_ok1 o hom).1) ▸ hI.1.1 (o) 1
  refine sx_bipush dX8_add_4 ⟨by decide, by decide, by decide⟩ ?_
  refine sx_icmp_ge (tgt := 29) dX8_add_6 (by decide) (fun c2 => ?_) (fun c2 => ?_)
  ·
    refine sx_ret dX8_add_29 ?_
    exact ⟨rfl, hI⟩
  ·
    refine sx_aload_n dX8_add_9 rfl ?_
    refine sx_getS (k := 0) (t := o + 1) cl_8 fl_X8_9 dX8_add_10 So0 (by omega) rfl (by decide) ?_
    refine sx_aload_n dX8_add_13 rfl ?_
    refine sx_getI (k := 1) cl_8 fl_X8_32 dX8_add_14 So0 (by omega) rfl (by decide) ?_
    have r3 : (0 : Int) ≤ h (o) 1 ∧ h (o) 1 ≤ 24 := (okc_of (St_ok1 o hom).1) ▸ hI.1.1 (o) 1
    refine sx_iload_n dX8_add_17 rfl ?_
    refine sy_iastore dX8_add_18 So1 (by omega) (by decide) ⟨by omega, by omega⟩ (fun h4 eh4 => ?_)
    have Ih4 := hI.up eh4 (St_oka o hom _ _).1 (St_sp o hom _).1.2.1 (St_sp o hom _).2.2.1
    have th4_o_1 := eh4.2 (o) 1 (by omega)
    refine sx_aload_n dX8_add_19 rfl ?_
    refine sx_dupr dX8_add_20 ?_
    refine sx_getI (k := 1) cl_8 fl_X8_32 dX8_add_21 So0 (by omega) rfl (by decide) ?_
    have r5 : (0 : Int) ≤ h4 (o) 1 ∧ h4 (o) 1 ≤ 24 := (okc_of (St_ok1 o hom).1) ▸ Ih4.1.1 (o) 1
    refine sx_iconst dX8_add_24 ⟨by decide, by decide⟩ ?_
    refine sx_iadd dX8_add_25 ?_
    refine sy_topw (by omega) ?_
    refine sy_putI (k := 1) cl_8 fl_X8_32 dX8_add_26 So0 (by omega) rfl (by decide) rfl rfl (fun h6 eh6 => ?_)
    have Ih6 := Ih4.up eh6 ((okc_of (St_ok1 o hom).1) ▸ (show (0 : Int) ≤ _ ∧ _ ≤ (24 : Int) from ⟨by omega, by omega⟩)) (St_sp o hom _).1.1 (St_sp o hom _).2.1
    have th6_o_1 := eh6.1
    refine sx_ret dX8_add_29 ?_
    exact ⟨rfl, Ih6⟩
set_option maxRecDepth 20000 in
set_option maxHeartbeats 4000000 in
theorem c_X8_takeTop {G : sw_G} (d : Nat) {h : sw_H} (hJ : cJ h) (o : Nat) (hom : o ∈ stL)  : sw_E G NH SH (d) mX8_takeTop 0 [some (sw_r o)] [] h (sw_Qi (fun z h' => cK pr0 h h')) := by
  have hI : cK pr0 h h := cK.rfl hJ
  obtain ⟨So0, So1, So2, bo⟩ := s_St o hom
  refine sx_aload_n dX8_takeTop_0 rfl ?_
  refine sx_getI (k := 1) cl_8 fl_X8_32 dX8_takeTop_1 So0 (by omega) rfl (by decide) ?_
  have r1 : (0 : Int) ≤ h (o) 1 ∧ h (o) 1 ≤ 24 := (okc_of (St_ok1 o hom).1) ▸ hI.1.1 (o) 1
  refine sx_if_ne (tgt := 9) dX8_takeTop_4 (by decide) (fun c2 => ?_) (fun c2 => ?_)
  ·
    refine sx_aload_n dX8_takeTop_9 rfl ?_
    refine sx_dupr dX8_takeTop_10 ?_
    refine sx_getI (k := 1) cl_8 fl_X8_32 dX8_takeTop_11 So0 (by omega) rfl (by decide) ?_
    have r3 : (0 : Int) ≤ h (o) 1 ∧ h (o) 1 ≤ 24 := (okc_of (St_ok1 o hom).1) ▸ hI.1.1 (o) 1
    refine sx_iconst dX8_takeTop_14 ⟨by decide, by decide⟩ ?_
    refine sx_isub dX8_takeTop_15 ?_
    refine sy_topw (by omega) ?_
    refine sy_putI (k := 1) cl_8 fl_X8_32 dX8_takeTop_16 So0 (by omega) rfl (by decide) rfl rfl (fun h4 eh4 => ?_)
    have Ih4 := hI.up eh4 ((okc_of (St_ok1 o hom).1) ▸ (show (0 : Int) ≤ _ ∧ _ ≤ (24 : Int) from ⟨by omega, by omega⟩)) (St_sp o hom _).1.1 (St_sp o hom _).2.1
    have th4_o_1 := eh4.1
    refine sx_aload_n dX8_takeTop_19 rfl ?_
    refine sx_getS (k := 0) (t := o + 1) cl_8 fl_X8_9 dX8_takeTop_20 So0 (by omega) rfl (by decide) ?_
    refine sx_aload_n dX8_takeTop_23 rfl ?_
    refine sx_getI (k := 1) cl_8 fl_X8_32 dX8_takeTop_24 So0 (by omega) rfl (by decide) ?_
    have r5 : (0 : Int) ≤ h4 (o) 1 ∧ h4 (o) 1 ≤ 24 := (okc_of (St_ok1 o hom).1) ▸ Ih4.1.1 (o) 1
    refine sx_iaload dX8_takeTop_27 So1 (by omega) (by decide) ⟨by omega, by omega⟩ ?_
    refine sx_ireturn dX8_takeTop_28 ?_
    exact ⟨_, rfl, Ih4⟩
  ·
    refine sx_iconst dX8_takeTop_7 ⟨by decide, by decide⟩ ?_
    refine sx_ireturn dX8_takeTop_8 ?_
    exact ⟨_, rfl, hI⟩
set_option maxRecDepth 20000 in
set_option maxHeartbeats 4000000 in
theorem c_X8_cellAt {G : sw_G} (d : Nat) {h : sw_H} (hJ : cJ h) (o : Nat) (hom : o ∈ stL) (i : Int) : sw_E G NH SH (d) mX8_cellAt 0 [some (sw_r o), some (sw_i i)] [] h (sw_Qi (fun z h' => cK pr0 h h')) := by
  have hI : cK pr0 h h := cK.rfl hJ
  obtain ⟨So0, So1, So2, bo⟩ := s_St o hom
  refine sx_iload_n dX8_cellAt_0 rfl ?_
  refine sx_if_lt (tgt := 28) dX8_cellAt_1 (by decide) (fun c1 => ?_) (fun c1 => ?_)
  ·
    refine sx_iconst dX8_cellAt_28 ⟨by decide, by decide⟩ ?_
    refine sx_ireturn dX8_cellAt_29 ?_
    exact ⟨_, rfl, hI⟩
  ·
    refine sx_iload_n dX8_cellAt_4 rfl ?_
    refine sx_aload_n dX8_cellAt_5 rfl ?_
    refine sx_getI (k := 1) cl_8 fl_X8_32 dX8_cellAt_6 So0 (by omega) rfl (by decide) ?_
    have r2 : (0 : Int) ≤ h (o) 1 ∧ h (o) 1 ≤ 24 := (okc_of (St_ok1 o hom).1) ▸ hI.1.1 (o) 1
    refine sx_icmp_ge (tgt := 28) dX8_cellAt_9 (by decide) (fun c3 => ?_) (fun c3 => ?_)
    ·
      refine sx_iconst dX8_cellAt_28 ⟨by decide, by decide⟩ ?_
      refine sx_ireturn dX8_cellAt_29 ?_
      exact ⟨_, rfl, hI⟩
    ·
      refine sx_aload_n dX8_cellAt_12 rfl ?_
      refine sx_getS (k := 0) (t := o + 1) cl_8 fl_X8_9 dX8_cellAt_13 So0 (by omega) rfl (by decide) ?_
      refine sx_aload_n dX8_cellAt_16 rfl ?_
      refine sx_getI (k := 1) cl_8 fl_X8_32 dX8_cellAt_17 So0 (by omega) rfl (by decide) ?_
      have r4 : (0 : Int) ≤ h (o) 1 ∧ h (o) 1 ≤ 24 := (okc_of (St_ok1 o hom).1) ▸ hI.1.1 (o) 1
      refine sx_iconst dX8_cellAt_20 ⟨by decide, by decide⟩ ?_
      refine sx_isub dX8_cellAt_21 ?_
      refine sy_topw (by omega) ?_
      refine sx_iload_n dX8_cellAt_22 rfl ?_
      refine sx_isub dX8_cellAt_23 ?_
      refine sy_topw (by omega) ?_
      refine sx_iaload dX8_cellAt_24 So1 (by omega) (by decide) ⟨by omega, by omega⟩ ?_
      refine sx_goto (tgt := 29) dX8_cellAt_25 (by decide) ?_
      refine sx_ireturn dX8_cellAt_29 ?_
      exact ⟨_, rfl, hI⟩
set_option maxRecDepth 20000 in
set_option maxHeartbeats 4000000 in
theorem c_X8_putAt {G : sw_G} (d : Nat) {h : sw_H} (hJ : cJ h) (o : Nat) (hom : o ∈ stL) (i : Int) : sw_E G NH SH (d) mX8_putAt 0 [some (sw_r o), some (sw_i i)] [] h (sw_Qi (fun z h' => cK pr0 h h')) := by
  have hI : cK pr0 h h := cK.rfl hJ
  obtain ⟨So0, So1, So2, bo⟩ := s_St o hom
  refine sx_iload_n dX8_putAt_0 rfl ?_
  refine sx_if_lt (tgt := 28) dX8_putAt_1 (by decide) (fun c1 => ?_) (fun c1 => ?_)
  ·
    refine sx_iconst dX8_putAt_28 ⟨by decide, by decide⟩ ?_
    refine sx_ireturn dX8_putAt_29 ?_
    exact ⟨_, rfl, hI⟩
  ·
    refine sx_iload_n dX8_putAt_4 rfl ?_
    refine sx_aload_n dX8_putAt_5 rfl ?_
    refine sx_getI (k := 3) cl_8 fl_X8_35 dX8_putAt_6 So0 (by omega) rfl (by decide) ?_
    have r2 : (0 : Int) ≤ h (o) 3 ∧ h (o) 3 ≤ 42 := (okc_of (St_ok1 o hom).2.1) ▸ hI.1.1 (o) 3
    refine sx_icmp_ge (tgt := 28) dX8_putAt_9 (by decide) (fun c3 => ?_) (fun c3 => ?_)
    ·
      refine sx_iconst dX8_putAt_28 ⟨by decide, by decide⟩ ?_
      refine sx_ireturn dX8_putAt_29 ?_
      exact ⟨_, rfl, hI⟩
    ·
      refine sx_aload_n dX8_putAt_12 rfl ?_
      refine sx_getS (k := 2) (t := o + 2) cl_8 fl_X8_15 dX8_putAt_13 So0 (by omega) rfl (by decide) ?_
      refine sx_aload_n dX8_putAt_16 rfl ?_
      refine sx_getI (k := 3) cl_8 fl_X8_35 dX8_putAt_17 So0 (by omega) rfl (by decide) ?_
      have r4 : (0 : Int) ≤ h (o) 3 ∧ h (o) 3 ≤ 42 := (okc_of (St_ok1 o hom).2.1) ▸ hI.1.1 (o) 3
      refine sx_iconst dX8_putAt_20 ⟨by decide, by decide⟩ ?_
      refine sx_isub dX8_putAt_21 ?_
      refine sy_topw (by omega) ?_
      refine sx_iload_n dX8_putAt_22 rfl ?_
      refine sx_isub dX8_putAt_23 ?_
      refine sy_topw (by omega) ?_
      refine sx_iaload dX8_putAt_24 So2 (by omega) (by decide) ⟨by omega, by omega⟩ ?_
      refine sx_goto (tgt := 29) dX8_putAt_25 (by decide) ?_
      refine sx_ireturn dX8_putAt_29 ?_
      exact ⟨_, rfl, hI⟩
set_option maxRecDepth 20000 in
set_option maxHeartbeats 4000000 in
theorem c_X8_turnBit {G : sw_G} (d : Nat) {h : sw_H} (hJ : cJ h) (o : Nat) (hom : o ∈ stL) (n : Int) : sw_E G NH SH (d) mX8_turnBit 0 [some (sw_r o), some (sw_i n), none] [] h (sw_Qi (fun z h' => cK pr0 h h')) := by
  have hI : cK pr0 h h := cK.rfl hJ
  obtain ⟨So0, So1, So2, bo⟩ := s_St o hom
  refine sx_aload_n dX8_turnBit_0 rfl ?_
  refine sx_aload_n dX8_turnBit_1 rfl ?_
  refine sx_getI (k := 5) cl_8 fl_X8_25 dX8_turnBit_2 So0 (by omega) rfl (by decide) ?_
  refine sx_sipush dX8_turnBit_5 ⟨by decide, by decide, by decide⟩ ?_
  refine sx_imul dX8_turnBit_8 ?_
  refine sx_bipush dX8_turnBit_9 ⟨by decide, by decide, by decide⟩ ?_
  refine sx_iadd dX8_turnBit_11 ?_
  refine sx_sipush dX8_turnBit_12 ⟨by decide, by decide, by decide⟩ ?_
  refine sx_irem dX8_turnBit_15 (by omega) ?_
  refine sy_putI (k := 5) cl_8 fl_X8_25 dX8_turnBit_16 So0 (by omega) rfl (by decide) rfl rfl (fun h1 eh1 => ?_)
  have Ih1 := hI.up eh1 okc_no (St_ok1 o hom).2.2.2 (St_sp o hom _).1.1 (St_sp o hom _).2.1
  have th1_o_5 := eh1.1
  have th1_o_1 := eh1.2 (o) 1 (by omega)
  refine sx_aload_n dX8_turnBit_19 rfl ?_
  refine sx_getI (k := 5) cl_8 fl_X8_25 dX8_turnBit_20 So0 (by omega) rfl (by decide) ?_
  refine sx_bipush dX8_turnBit_23 ⟨by decide, by decide, by decide⟩ ?_
  refine sx_irem dX8_turnBit_25 (by omega) ?_
  refine sx_iload_n dX8_turnBit_26 rfl ?_
  refine sx_icmp_ge (tgt := 37) dX8_turnBit_27 (by decide) (fun c2 => ?_) (fun c2 => ?_)
  ·
    refine sx_iconst dX8_turnBit_37 ⟨by decide, by decide⟩ ?_
    refine sx_ireturn dX8_turnBit_38 ?_
    exact ⟨_, rfl, Ih1⟩
  ·
    refine sx_aload_n dX8_turnBit_30 rfl ?_
    refine sx_getI (k := 1) cl_8 fl_X8_32 dX8_turnBit_31 So0 (by omega) rfl (by decide) ?_
    have r3 : (0 : Int) ≤ h1 (o) 1 ∧ h1 (o) 1 ≤ 24 := (okc_of (St_ok1 o hom).1) ▸ Ih1.1.1 (o) 1
    refine sx_if_ne (tgt := 39) dX8_turnBit_34 (by decide) (fun c4 => ?_) (fun c4 => ?_)
    ·
      refine sx_aload_n dX8_turnBit_39 rfl ?_
      refine sx_getI (k := 5) cl_8 fl_X8_25 dX8_turnBit_40 So0 (by omega) rfl (by decide) ?_
      refine sx_bipush dX8_turnBit_43 ⟨by decide, by decide, by decide⟩ ?_
      refine sx_idiv dX8_turnBit_45 (by omega) ?_
      refine sx_istore_n dX8_turnBit_46 (by decide) ?_
      refine sx_aload_n dX8_turnBit_47 rfl ?_
      refine sx_getS (k := 0) (t := o + 1) cl_8 fl_X8_9 dX8_turnBit_48 So0 (by omega) rfl (by decide) ?_
      refine sx_aload_n dX8_turnBit_51 rfl ?_
      refine sx_getI (k := 1) cl_8 fl_X8_32 dX8_turnBit_52 So0 (by omega) rfl (by decide) ?_
      have r5 : (0 : Int) ≤ h1 (o) 1 ∧ h1 (o) 1 ≤ 24 := (okc_of (St_ok1 o hom).1) ▸ Ih1.1.1 (o) 1
      refine sx_iconst dX8_turnBit_55 ⟨by decide, by decide⟩ ?_
      refine sx_isub dX8_turnBit_56 ?_
      refine sx_dup2 dX8_turnBit_57 ?_
      refine sx_iaload dX8_turnBit_58 So1 (by omega) (by decide) ⟨by omega, by omega⟩ ?_
      refine sx_iconst dX8_turnBit_59 ⟨by decide, by decide⟩ ?_
      refine sx_iload_n dX8_turnBit_60 rfl ?_
      refine sx_ishl dX8_turnBit_61 ?_
      refine sx_ixor dX8_turnBit_62 ?_
      refine sy_iastore dX8_turnBit_63 So1 (by omega) (by decide) ⟨by omega, by omega⟩ (fun h7 eh7 => ?_)
      have Ih7 := Ih1.up eh7 (St_oka o hom _ _).1 (St_sp o hom _).1.2.1 (St_sp o hom _).2.2.1
      have th7_o_5 := eh7.2 (o) 5 (by omega)
      have th7_o_1 := eh7.2 (o) 1 (by omega)
      refine sx_iload_n dX8_turnBit_64 rfl ?_
      refine sx_ireturn dX8_turnBit_65 ?_
      exact ⟨_, rfl, Ih7⟩
    ·
      refine sx_iconst dX8_turnBit_37 ⟨by decide, by decide⟩ ?_
      refine sx_ireturn dX8_turnBit_38 ?_
      exact ⟨_, rfl, Ih1⟩

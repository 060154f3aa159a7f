set_option maxRecDepth 20000 in
set_option maxHeartbeats 4000000 in
theorem c_X6_least {G : sw_G} (d : Nat) {h0 : sw_H} (hJ : cJ h0) (t : Int) (ht : 0 ≤ t ∧ t ≤ 6) : sw_E G NH SH (d) mX6_least 0 [some (sw_i t)] [] h0 (sw_Qi (fun z h' => h0 = h')) := by
  have hI : cK pr0 h0 h0 := cK.refl hJ
  refine sx_gets (t := 0) (by decide) sl_X6_37 dX6_least_0 ?_
  refine sx_iload_n dX6_least_3 rfl ?_
  refine sy_sia (t := 0) (n := 15) (by decide) dX6_least_4 rfl ⟨by omega, by omega⟩ (fun r1 => ?_)
  refine sx_iconst dX6_least_5 ⟨by decide, by decide⟩ ?_
  refine sx_icmp_ne (tgt := 13) dX6_least_6 (by decide) (fun c2 => ?_) (fun c2 => ?_)
  ·
    refine sx_gets (t := 0) (by decide) sl_X6_37 dX6_least_13 ?_
    refine sx_iload_n dX6_least_16 rfl ?_
    refine sy_sia (t := 0) (n := 15) (by decide) dX6_least_17 rfl ⟨by omega, by omega⟩ (fun r3 => ?_)
    refine sx_iconst dX6_least_18 ⟨by decide, by decide⟩ ?_
    refine sx_icmp_ne (tgt := 26) dX6_least_19 (by decide) (fun c4 => ?_) (fun c4 => ?_)
    ·
      refine sx_bipush dX6_least_26 ⟨by decide, by decide, by decide⟩ ?_
      refine sx_ireturn dX6_least_28 ?_
      exact ⟨_, rfl, rfl⟩
    ·
      refine sx_iconst dX6_least_22 ⟨by decide, by decide⟩ ?_
      refine sx_goto (tgt := 28) dX6_least_23 (by decide) ?_
      refine sx_ireturn dX6_least_28 ?_
      exact ⟨_, rfl, rfl⟩
  ·
    refine sx_iconst dX6_least_9 ⟨by decide, by decide⟩ ?_
    refine sx_goto (tgt := 28) dX6_least_10 (by decide) ?_
    refine sx_ireturn dX6_least_28 ?_
    exact ⟨_, rfl, rfl⟩
set_option maxRecDepth 20000 in
set_option maxHeartbeats 4000000 in
theorem c_X6_shuffle {G : sw_G} (d : Nat) {h0 : sw_H} (hJ : cJ h0) (r t : Int) (hr : 0 ≤ r ∧ r ≤ 1023) (ht : 0 ≤ t ∧ t ≤ 6) : sw_E G NH SH (d + 1) mX6_shuffle 0 [some (sw_i r), some (sw_i t), none, none, none] [] h0 (sw_Qi (fun z h' => h0 = h' ∧ (z = -1 ∨ (0 ≤ z ∧ z ≤ 1023)))) := by
  have hI : cK pr0 h0 h0 := cK.refl hJ
  refine sx_iload_n dX6_shuffle_0 rfl ?_
  refine sx_iload_n dX6_shuffle_1 rfl ?_
  refine sx_callSi lk_X6_30 dX6_shuffle_2 (vs := [_]) rfl rfl (Nat.le_of_ble_eq_true rfl) (Nat.le_of_ble_eq_true rfl) rfl (c_X6_least _ hI.1 _ (by omega)) (fun x2 h1 ph1 => ?_)
  subst ph1
  refine sx_icmp_lt (tgt := 28) dX6_shuffle_5 (by decide) (fun c3 => ?_) (fun c3 => ?_)
  ·
    refine sx_iconst dX6_shuffle_28 ⟨by decide, by decide⟩ ?_
    refine sx_ireturn dX6_shuffle_29 ?_
    exact ⟨_, rfl, ⟨rfl, by exact Or.inl (by omega)⟩⟩
  ·
    refine sx_gets (t := 1) (by decide) sl_X6_34 dX6_shuffle_8 ?_
    refine sx_iload_n dX6_shuffle_11 rfl ?_
    refine sy_sia (t := 1) (n := 15) (by decide) dX6_shuffle_12 rfl ⟨by omega, by omega⟩ (fun r4 => ?_)
    refine sx_gets (t := 0) (by decide) sl_X6_37 dX6_shuffle_13 ?_
    refine sx_iload_n dX6_shuffle_16 rfl ?_
    refine sy_sia (t := 0) (n := 15) (by decide) dX6_shuffle_17 rfl ⟨by omega, by omega⟩ (fun r5 => ?_)
    refine sx_icmp_le (tgt := 30) dX6_shuffle_18 (by decide) (fun c6 => ?_) (fun c6 => ?_)
    ·
      refine sx_iload_n dX6_shuffle_30 rfl ?_
      refine sx_iconst dX6_shuffle_31 ⟨by decide, by decide⟩ ?_
      refine sx_iand dX6_shuffle_32 ?_
      refine sy_top (fun v7 ev7 => ?_)
      refine sx_istore_n dX6_shuffle_33 (by decide) ?_
      refine sx_iload_n dX6_shuffle_34 rfl ?_
      refine sx_iconst dX6_shuffle_35 ⟨by decide, by decide⟩ ?_
      refine sx_ishr dX6_shuffle_36 ?_
      refine sx_iconst dX6_shuffle_37 ⟨by decide, by decide⟩ ?_
      refine sx_iand dX6_shuffle_38 ?_
      refine sy_top (fun v8 ev8 => ?_)
      refine sx_istore_n dX6_shuffle_39 (by decide) ?_
      refine sx_iload_n dX6_shuffle_40 rfl ?_
      refine sx_iconst dX6_shuffle_41 ⟨by decide, by decide⟩ ?_
      refine sx_ishr dX6_shuffle_42 ?_
      refine sx_iconst dX6_shuffle_43 ⟨by decide, by decide⟩ ?_
      refine sx_iand dX6_shuffle_44 ?_
      refine sy_top (fun v9 ev9 => ?_)
      refine sx_istore dX6_shuffle_45 (by decide) ?_
      refine sx_iload_n dX6_shuffle_47 rfl ?_
      refine sx_tsw (dt := 164) (ts := [92, 98, 102, 114, 120, 139, 147]) dX6_shuffle_48 (by decide) (by decide) (by decide) (fun c10 => ?_) (And.intro (fun c10 => ?_) (And.intro (fun c10 => ?_) (And.intro (fun c10 => ?_) (And.intro (fun c10 => ?_) (And.intro (fun c10 => ?_) (And.intro (fun c10 => ?_) (And.intro (fun c10 => ?_) trivial)))))))
      ·
        refine sx_iconst dX6_shuffle_164 ⟨by decide, by decide⟩ ?_
        refine sx_ireturn dX6_shuffle_165 ?_
        exact ⟨_, rfl, ⟨rfl, by exact Or.inl (by omega)⟩⟩
      ·
        refine sx_iload_n dX6_shuffle_92 rfl ?_
        refine sx_iconst dX6_shuffle_93 ⟨by decide, by decide⟩ ?_
        refine sx_ishl dX6_shuffle_94 ?_
        refine sx_iload_n dX6_shuffle_95 rfl ?_
        refine sx_ior dX6_shuffle_96 ?_
        refine sx_ireturn dX6_shuffle_97 ?_
        exact ⟨_, rfl, ⟨rfl, by (have q0 : t = 0 := (by omega); have q1 : sw_sd 1 t.toNat = 2 := (by rw [q0]; rfl); have q2 : sw_sd 0 t.toNat = 1 := (by rw [q0]; rfl); rw [ev7]; exact sh_dup r (by omega) (by omega))⟩⟩
      ·
        refine sx_iload_n dX6_shuffle_98 rfl ?_
        refine sx_iconst dX6_shuffle_99 ⟨by decide, by decide⟩ ?_
        refine sx_ishr dX6_shuffle_100 ?_
        refine sx_ireturn dX6_shuffle_101 ?_
        exact ⟨_, rfl, ⟨rfl, by exact sh_drop r (by omega) (by omega)⟩⟩
      ·
        refine sx_iload_n dX6_shuffle_102 rfl ?_
        refine sx_iconst dX6_shuffle_103 ⟨by decide, by decide⟩ ?_
        refine sx_ishr dX6_shuffle_104 ?_
        refine sx_iconst dX6_shuffle_105 ⟨by decide, by decide⟩ ?_
        refine sx_ishl dX6_shuffle_106 ?_
        refine sx_iload_n dX6_shuffle_107 rfl ?_
        refine sx_iconst dX6_shuffle_108 ⟨by decide, by decide⟩ ?_
        refine sx_ishl dX6_shuffle_109 ?_
        refine sx_ior dX6_shuffle_110 ?_
        refine sx_iload_n dX6_shuffle_111 rfl ?_
        refine sx_ior dX6_shuffle_112 ?_
        refine sx_ireturn dX6_shuffle_113 ?_
        exact ⟨_, rfl, ⟨rfl, by (rw [ev7, ev8]; exact sh_swap r (by omega) (by omega))⟩⟩
      ·
        refine sx_iload_n dX6_shuffle_114 rfl ?_
        refine sx_iconst dX6_shuffle_115 ⟨by decide, by decide⟩ ?_
        refine sx_ishl dX6_shuffle_116 ?_
        refine sx_iload_n dX6_shuffle_117 rfl ?_
        refine sx_ior dX6_shuffle_118 ?_
        refine sx_ireturn dX6_shuffle_119 ?_
        exact ⟨_, rfl, ⟨rfl, by (have q0 : t = 3 := (by omega); have q1 : sw_sd 1 t.toNat = 3 := (by rw [q0]; rfl); have q2 : sw_sd 0 t.toNat = 2 := (by rw [q0]; rfl); rw [ev8]; exact sh_over r (by omega) (by omega))⟩⟩
      ·
        refine sx_iload_n dX6_shuffle_120 rfl ?_
        refine sx_bipush dX6_shuffle_121 ⟨by decide, by decide, by decide⟩ ?_
        refine sx_ishr dX6_shuffle_123 ?_
        refine sx_bipush dX6_shuffle_124 ⟨by decide, by decide, by decide⟩ ?_
        refine sx_ishl dX6_shuffle_126 ?_
        refine sx_iload_n dX6_shuffle_127 rfl ?_
        refine sx_iconst dX6_shuffle_128 ⟨by decide, by decide⟩ ?_
        refine sx_ishl dX6_shuffle_129 ?_
        refine sx_ior dX6_shuffle_130 ?_
        refine sx_iload_n dX6_shuffle_131 rfl ?_
        refine sx_iconst dX6_shuffle_132 ⟨by decide, by decide⟩ ?_
        refine sx_ishl dX6_shuffle_133 ?_
        refine sx_ior dX6_shuffle_134 ?_
        refine sx_iload dX6_shuffle_135 rfl ?_
        refine sx_ior dX6_shuffle_137 ?_
        refine sx_ireturn dX6_shuffle_138 ?_
        exact ⟨_, rfl, ⟨rfl, by (rw [ev7, ev8, ev9]; exact sh_rot r (by omega) (by omega))⟩⟩
      ·
        refine sx_iload_n dX6_shuffle_139 rfl ?_
        refine sx_iconst dX6_shuffle_140 ⟨by decide, by decide⟩ ?_
        refine sx_ishr dX6_shuffle_141 ?_
        refine sx_iconst dX6_shuffle_142 ⟨by decide, by decide⟩ ?_
        refine sx_ishl dX6_shuffle_143 ?_
        refine sx_iload_n dX6_shuffle_144 rfl ?_
        refine sx_ior dX6_shuffle_145 ?_
        refine sx_ireturn dX6_shuffle_146 ?_
        exact ⟨_, rfl, ⟨rfl, by (rw [ev7]; exact sh_nip r (by omega) (by omega))⟩⟩
      ·
        refine sx_iload_n dX6_shuffle_147 rfl ?_
        refine sx_iconst dX6_shuffle_148 ⟨by decide, by decide⟩ ?_
        refine sx_ishr dX6_shuffle_149 ?_
        refine sx_bipush dX6_shuffle_150 ⟨by decide, by decide, by decide⟩ ?_
        refine sx_ishl dX6_shuffle_152 ?_
        refine sx_iload_n dX6_shuffle_153 rfl ?_
        refine sx_iconst dX6_shuffle_154 ⟨by decide, by decide⟩ ?_
        refine sx_ishl dX6_shuffle_155 ?_
        refine sx_ior dX6_shuffle_156 ?_
        refine sx_iload_n dX6_shuffle_157 rfl ?_
        refine sx_iconst dX6_shuffle_158 ⟨by decide, by decide⟩ ?_
        refine sx_ishl dX6_shuffle_159 ?_
        refine sx_ior dX6_shuffle_160 ?_
        refine sx_iload_n dX6_shuffle_161 rfl ?_
        refine sx_ior dX6_shuffle_162 ?_
        refine sx_ireturn dX6_shuffle_163 ?_
        exact ⟨_, rfl, ⟨rfl, by (have q0 : t = 6 := (by omega); have q1 : sw_sd 1 t.toNat = 3 := (by rw [q0]; rfl); have q2 : sw_sd 0 t.toNat = 2 := (by rw [q0]; rfl); rw [ev7, ev8]; exact sh_tuck r (by omega) (by omega))⟩⟩
    ·
      refine sx_iload_n dX6_shuffle_21 rfl ?_
      refine sx_sipush dX6_shuffle_22 ⟨by decide, by decide, by decide⟩ ?_
      refine sx_icmp_le (tgt := 30) dX6_shuffle_25 (by decide) (fun c11 => ?_) (fun c11 => ?_)
      ·
        refine sx_iload_n dX6_shuffle_30 rfl ?_
        refine sx_iconst dX6_shuffle_31 ⟨by decide, by decide⟩ ?_
        refine sx_iand dX6_shuffle_32 ?_
        refine sy_top (fun v12 ev12 => ?_)
        refine sx_istore_n dX6_shuffle_33 (by decide) ?_
        refine sx_iload_n dX6_shuffle_34 rfl ?_
        refine sx_iconst dX6_shuffle_35 ⟨by decide, by decide⟩ ?_
        refine sx_ishr dX6_shuffle_36 ?_
        refine sx_iconst dX6_shuffle_37 ⟨by decide, by decide⟩ ?_
        refine sx_iand dX6_shuffle_38 ?_
        refine sy_top (fun v13 ev13 => ?_)
        refine sx_istore_n dX6_shuffle_39 (by decide) ?_
        refine sx_iload_n dX6_shuffle_40 rfl ?_
        refine sx_iconst dX6_shuffle_41 ⟨by decide, by decide⟩ ?_
        refine sx_ishr dX6_shuffle_42 ?_
        refine sx_iconst dX6_shuffle_43 ⟨by decide, by decide⟩ ?_
        refine sx_iand dX6_shuffle_44 ?_
        refine sy_top (fun v14 ev14 => ?_)
        refine sx_istore dX6_shuffle_45 (by decide) ?_
        refine sx_iload_n dX6_shuffle_47 rfl ?_
        refine sx_tsw (dt := 164) (ts := [92, 98, 102, 114, 120, 139, 147]) dX6_shuffle_48 (by decide) (by decide) (by decide) (fun c15 => ?_) (And.intro (fun c15 => ?_) (And.intro (fun c15 => ?_) (And.intro (fun c15 => ?_) (And.intro (fun c15 => ?_) (And.intro (fun c15 => ?_) (And.intro (fun c15 => ?_) (And.intro (fun c15 => ?_) trivial)))))))
        ·
          refine sx_iconst dX6_shuffle_164 ⟨by decide, by decide⟩ ?_
          refine sx_ireturn dX6_shuffle_165 ?_
          exact ⟨_, rfl, ⟨rfl, by exact Or.inl (by omega)⟩⟩
        ·
          refine sx_iload_n dX6_shuffle_92 rfl ?_
          refine sx_iconst dX6_shuffle_93 ⟨by decide, by decide⟩ ?_
          refine sx_ishl dX6_shuffle_94 ?_
          refine sx_iload_n dX6_shuffle_95 rfl ?_
          refine sx_ior dX6_shuffle_96 ?_
          refine sx_ireturn dX6_shuffle_97 ?_
          exact ⟨_, rfl, ⟨rfl, by (have q0 : t = 0 := (by omega); have q1 : sw_sd 1 t.toNat = 2 := (by rw [q0]; rfl); have q2 : sw_sd 0 t.toNat = 1 := (by rw [q0]; rfl); rw [ev12]; exact sh_dup r (by omega) (by omega))⟩⟩
        ·
          refine sx_iload_n dX6_shuffle_98 rfl ?_
          refine sx_iconst dX6_shuffle_99 ⟨by decide, by decide⟩ ?_
          refine sx_ishr dX6_shuffle_100 ?_
          refine sx_ireturn dX6_shuffle_101 ?_
          exact ⟨_, rfl, ⟨rfl, by exact sh_drop r (by omega) (by omega)⟩⟩
        ·
          refine sx_iload_n dX6_shuffle_102 rfl ?_
          refine sx_iconst dX6_shuffle_103 ⟨by decide, by decide⟩ ?_
          refine sx_ishr dX6_shuffle_104 ?_
          refine sx_iconst dX6_shuffle_105 ⟨by decide, by decide⟩ ?_
          refine sx_ishl dX6_shuffle_106 ?_
          refine sx_iload_n dX6_shuffle_107 rfl ?_
          refine sx_iconst dX6_shuffle_108 ⟨by decide, by decide⟩ ?_
          refine sx_ishl dX6_shuffle_109 ?_
          refine sx_ior dX6_shuffle_110 ?_
          refine sx_iload_n dX6_shuffle_111 rfl ?_
          refine sx_ior dX6_shuffle_112 ?_
          refine sx_ireturn dX6_shuffle_113 ?_
          exact ⟨_, rfl, ⟨rfl, by (rw [ev12, ev13]; exact sh_swap r (by omega) (by omega))⟩⟩
        ·
          refine sx_iload_n dX6_shuffle_114 rfl ?_
          refine sx_iconst dX6_shuffle_115 ⟨by decide, by decide⟩ ?_
          refine sx_ishl dX6_shuffle_116 ?_
          refine sx_iload_n dX6_shuffle_117 rfl ?_
          refine sx_ior dX6_shuffle_118 ?_
          refine sx_ireturn dX6_shuffle_119 ?_
          exact ⟨_, rfl, ⟨rfl, by (have q0 : t = 3 := (by omega); have q1 : sw_sd 1 t.toNat = 3 := (by rw [q0]; rfl); have q2 : sw_sd 0 t.toNat = 2 := (by rw [q0]; rfl); rw [ev13]; exact sh_over r (by omega) (by omega))⟩⟩
        ·
          refine sx_iload_n dX6_shuffle_120 rfl ?_
          refine sx_bipush dX6_shuffle_121 ⟨by decide, by decide, by decide⟩ ?_
          refine sx_ishr dX6_shuffle_123 ?_
          refine sx_bipush dX6_shuffle_124 ⟨by decide, by decide, by decide⟩ ?_
          refine sx_ishl dX6_shuffle_126 ?_
          refine sx_iload_n dX6_shuffle_127 rfl ?_
          refine sx_iconst dX6_shuffle_128 ⟨by decide, by decide⟩ ?_
          refine sx_ishl dX6_shuffle_129 ?_
          refine sx_ior dX6_shuffle_130 ?_
          refine sx_iload_n dX6_shuffle_131 rfl ?_
          refine sx_iconst dX6_shuffle_132 ⟨by decide, by decide⟩ ?_
          refine sx_ishl dX6_shuffle_133 ?_
          refine sx_ior dX6_shuffle_134 ?_
          refine sx_iload dX6_shuffle_135 rfl ?_
          refine sx_ior dX6_shuffle_137 ?_
          refine sx_ireturn dX6_shuffle_138 ?_
          exact ⟨_, rfl, ⟨rfl, by (rw [ev12, ev13, ev14]; exact sh_rot r (by omega) (by omega))⟩⟩
        ·
          refine sx_iload_n dX6_shuffle_139 rfl ?_
          refine sx_iconst dX6_shuffle_140 ⟨by decide, by decide⟩ ?_
          refine sx_ishr dX6_shuffle_141 ?_
          refine sx_iconst dX6_shuffle_142 ⟨by decide, by decide⟩ ?_
          refine sx_ishl dX6_shuffle_143 ?_
          refine sx_iload_n dX6_shuffle_144 rfl ?_
          refine sx_ior dX6_shuffle_145 ?_
          refine sx_ireturn dX6_shuffle_146 ?_
          exact ⟨_, rfl, ⟨rfl, by (rw [ev12]; exact sh_nip r (by omega) (by omega))⟩⟩
        ·
          refine sx_iload_n dX6_shuffle_147 rfl ?_
          refine sx_iconst dX6_shuffle_148 ⟨by decide, by decide⟩ ?_
          refine sx_ishr dX6_shuffle_149 ?_
          refine sx_bipush dX6_shuffle_150 ⟨by decide, by decide, by decide⟩ ?_
          refine sx_ishl dX6_shuffle_152 ?_
          refine sx_iload_n dX6_shuffle_153 rfl ?_
          refine sx_iconst dX6_shuffle_154 ⟨by decide, by decide⟩ ?_
          refine sx_ishl dX6_shuffle_155 ?_
          refine sx_ior dX6_shuffle_156 ?_
          refine sx_iload_n dX6_shuffle_157 rfl ?_
          refine sx_iconst dX6_shuffle_158 ⟨by decide, by decide⟩ ?_
          refine sx_ishl dX6_shuffle_159 ?_
          refine sx_ior dX6_shuffle_160 ?_
          refine sx_iload_n dX6_shuffle_161 rfl ?_
          refine sx_ior dX6_shuffle_162 ?_
          refine sx_ireturn dX6_shuffle_163 ?_
          exact ⟨_, rfl, ⟨rfl, by (have q0 : t = 6 := (by omega); have q1 : sw_sd 1 t.toNat = 3 := (by rw [q0]; rfl); have q2 : sw_sd 0 t.toNat = 2 := (by rw [q0]; rfl); rw [ev12, ev13]; exact sh_tuck r (by omega) (by omega))⟩⟩
      ·
        refine sx_iconst dX6_shuffle_28 ⟨by decide, by decide⟩ ?_
        refine sx_ireturn dX6_shuffle_29 ?_
        exact ⟨_, rfl, ⟨rfl, by exact Or.inl (by omega)⟩⟩
set_option maxRecDepth 20000 in
set_option maxHeartbeats 4000000 in
theorem c_X6_digitsOf {G : sw_G} (d : Nat) {h0 : sw_H} (hJ : cJ h0) (r : Int) : sw_E G NH SH (d) mX6_digitsOf 0 [some (sw_i r), none, none] [] h0 (sw_Qi (fun z h' => h0 = h')) := by
  have hI : cK pr0 h0 h0 := cK.refl hJ
  refine sx_iconst dX6_digitsOf_0 ⟨by decide, by decide⟩ ?_
  refine sx_istore_n dX6_digitsOf_1 (by decide) ?_
  refine sx_bipush dX6_digitsOf_2 ⟨by decide, by decide, by decide⟩ ?_
  refine sx_istore_n dX6_digitsOf_4 (by decide) ?_
  refine sx_loop2 (fun (h : sw_H) (q : Int) (s : Int) => (h0 = h) ∧ (s ≤ 8)) (fun (h : sw_H) (q : Int) (s : Int) => (s + 2).toNat) (fun (h : sw_H) (q : Int) (s : Int) => sw_E G NH SH (d) mX6_digitsOf 5 [some (sw_i r), some (sw_i q), some (sw_i s)] [] h (sw_Qi (fun z h' => h0 = h'))) ?_ _ _ _ ?_
  · rintro h1 q_2 s_3 ⟨rfl, j4⟩ ihh1
    try dsimp only at ihh1
    refine sx_iload_n dX6_digitsOf_5 rfl ?_
    refine sx_if_lt (tgt := 26) dX6_digitsOf_6 (by decide) (fun c5 => ?_) (fun c5 => ?_)
    ·
      refine sx_iload_n dX6_digitsOf_26 rfl ?_
      refine sx_ireturn dX6_digitsOf_27 ?_
      exact ⟨_, rfl, rfl⟩
    ·
      refine sx_iload_n dX6_digitsOf_9 rfl ?_
      refine sx_bipush dX6_digitsOf_10 ⟨by decide, by decide, by decide⟩ ?_
      refine sx_imul dX6_digitsOf_12 ?_
      refine sx_iload_n dX6_digitsOf_13 rfl ?_
      refine sx_iload_n dX6_digitsOf_14 rfl ?_
      refine sx_ishr dX6_digitsOf_15 ?_
      refine sx_iconst dX6_digitsOf_16 ⟨by decide, by decide⟩ ?_
      refine sx_iand dX6_digitsOf_17 ?_
      refine sx_iadd dX6_digitsOf_18 ?_
      refine sy_top (fun v6 ev6 => ?_)
      refine sx_istore_n dX6_digitsOf_19 (by decide) ?_
      refine sx_iinc dX6_digitsOf_20 (by decide) rfl ?_
      rw [sw_w_id (by omega) (by omega)]
      refine sx_goto (tgt := 5) dX6_digitsOf_23 (by decide) ?_
      exact ihh1 _ _ _ ⟨rfl, by omega⟩ (by exact sy_dec (by omega) (by omega))
  · exact ⟨rfl, by omega⟩
set_option maxRecDepth 20000 in
set_option maxHeartbeats 4000000 in
theorem c_X6_firstRow {G : sw_G} (d : Nat) {h0 : sw_H} (hJ : cJ h0) (n : Int) (hn : n ≤ 3) : sw_E G NH SH (d) mX6_firstRow 0 [some (sw_i n), none, none] [] h0 (sw_Qi (fun z h' => h0 = h' ∧ 0 ≤ z ∧ z ≤ 27)) := by
  have hI : cK pr0 h0 h0 := cK.refl hJ
  refine sx_iconst dX6_firstRow_0 ⟨by decide, by decide⟩ ?_
  refine sx_istore_n dX6_firstRow_1 (by decide) ?_
  refine sx_iconst dX6_firstRow_2 ⟨by decide, by decide⟩ ?_
  refine sx_istore_n dX6_firstRow_3 (by decide) ?_
  refine sx_loop2 (fun (h : sw_H) (q : Int) (s : Int) => (h0 = h) ∧ ((s = 1 ∧ q = 0) ∨ (s = 2 ∧ q = 1) ∨ (s = 3 ∧ q = 6) ∨ (s = 4 ∧ q = 27))) (fun (h : sw_H) (q : Int) (s : Int) => (4 - s).toNat) (fun (h : sw_H) (q : Int) (s : Int) => sw_E G NH SH (d) mX6_firstRow 4 [some (sw_i n), some (sw_i q), some (sw_i s)] [] h (sw_Qi (fun z h' => h0 = h' ∧ 0 ≤ z ∧ z ≤ 27))) ?_ _ _ _ ?_
  · rintro h1 q_2 s_3 ⟨rfl, j4⟩ ihh1
    try dsimp only at ihh1
    refine sx_iload_n dX6_firstRow_4 rfl ?_
    refine sx_iload_n dX6_firstRow_5 rfl ?_
    refine sx_icmp_gt (tgt := 21) dX6_firstRow_6 (by decide) (fun c5 => ?_) (fun c5 => ?_)
    ·
      refine sx_iload_n dX6_firstRow_21 rfl ?_
      refine sx_ireturn dX6_firstRow_22 ?_
      exact ⟨_, rfl, ⟨rfl, by omega, by omega⟩⟩
    ·
      refine sx_iload_n dX6_firstRow_9 rfl ?_
      refine sx_iconst dX6_firstRow_10 ⟨by decide, by decide⟩ ?_
      refine sx_imul dX6_firstRow_11 ?_
      refine sy_topw (by omega) ?_
      refine sx_iload_n dX6_firstRow_12 rfl ?_
      refine sx_iadd dX6_firstRow_13 ?_
      refine sy_topw (by omega) ?_
      refine sy_top (fun v6 ev6 => ?_)
      refine sx_istore_n dX6_firstRow_14 (by decide) ?_
      refine sx_iinc dX6_firstRow_15 (by decide) rfl ?_
      rw [sw_w_id (by omega) (by omega)]
      refine sx_goto (tgt := 4) dX6_firstRow_18 (by decide) ?_
      exact ihh1 _ _ _ ⟨rfl, by omega⟩ (by exact sy_dec (by omega) (by omega))
  · exact ⟨rfl, by omega⟩
set_option maxRecDepth 20000 in
set_option maxHeartbeats 4000000 in
theorem c_X6_rowOf {G : sw_G} (d : Nat) {h0 : sw_H} (hJ : cJ h0) (n m : Int) : sw_E G NH SH (d) mX6_rowOf 0 [some (sw_r 182), some (sw_i n), some (sw_i m), none, none, none, none] [] h0 (sw_Qi (fun z h' => h0 = h' ∧ (z = -1 ∨ (0 ≤ z ∧ z ≤ 255 ∧ 0 ≤ n ∧ n ≤ 3)))) := by
  have hI : cK pr0 h0 h0 := cK.refl hJ
  refine sx_iload_n dX6_rowOf_0 rfl ?_
  refine sx_if_lt (tgt := 20) dX6_rowOf_1 (by decide) (fun c1 => ?_) (fun c1 => ?_)
  ·
    refine sx_iconst dX6_rowOf_20 ⟨by decide, by decide⟩ ?_
    refine sx_ireturn dX6_rowOf_21 ?_
    exact ⟨_, rfl, ⟨rfl, by omega⟩⟩
  ·
    refine sx_iload_n dX6_rowOf_4 rfl ?_
    refine sx_iconst dX6_rowOf_5 ⟨by decide, by decide⟩ ?_
    refine sx_icmp_gt (tgt := 20) dX6_rowOf_6 (by decide) (fun c2 => ?_) (fun c2 => ?_)
    ·
      refine sx_iconst dX6_rowOf_20 ⟨by decide, by decide⟩ ?_
      refine sx_ireturn dX6_rowOf_21 ?_
      exact ⟨_, rfl, ⟨rfl, by omega⟩⟩
    ·
      refine sx_iload_n dX6_rowOf_9 rfl ?_
      refine sx_if_lt (tgt := 20) dX6_rowOf_10 (by decide) (fun c3 => ?_) (fun c3 => ?_)
      ·
        refine sx_iconst dX6_rowOf_20 ⟨by decide, by decide⟩ ?_
        refine sx_ireturn dX6_rowOf_21 ?_
        exact ⟨_, rfl, ⟨rfl, by omega⟩⟩
      ·
        refine sx_iload_n dX6_rowOf_13 rfl ?_
        refine sx_sipush dX6_rowOf_14 ⟨by decide, by decide, by decide⟩ ?_
        refine sx_icmp_le (tgt := 22) dX6_rowOf_17 (by decide) (fun c4 => ?_) (fun c4 => ?_)
        ·
          refine sx_iconst dX6_rowOf_22 ⟨by decide, by decide⟩ ?_
          refine sx_istore_n dX6_rowOf_23 (by decide) ?_
          refine sx_iconst dX6_rowOf_24 ⟨by decide, by decide⟩ ?_
          refine sx_istore dX6_rowOf_25 (by decide) ?_
          refine sx_sipush dX6_rowOf_27 ⟨by decide, by decide, by decide⟩ ?_
          refine sx_istore dX6_rowOf_30 (by decide) ?_
          refine sx_loop3 (fun (h : sw_H) (q : Int) (u : Int) (t : Int) => (h0 = h) ∧ ((t = 1000 ∧ q = 0) ∨ (t = 100 ∧ 0 ≤ q ∧ q ≤ 3) ∨ (t = 10 ∧ 0 ≤ q ∧ q ≤ 15) ∨ (t = 1 ∧ 0 ≤ q ∧ q ≤ 63) ∨ (t = 0 ∧ 0 ≤ q ∧ q ≤ 255))) (fun (h : sw_H) (q : Int) (u : Int) (t : Int) => t.toNat) (fun (h : sw_H) (q : Int) (u : Int) (t : Int) => sw_E G NH SH (d) mX6_rowOf 32 [some (sw_r 182), some (sw_i n), some (sw_i m), some (sw_i q), some (sw_i u), some (sw_i t), none] [] h (sw_Qi (fun z h' => h0 = h' ∧ (z = -1 ∨ (0 ≤ z ∧ z ≤ 255 ∧ 0 ≤ n ∧ n ≤ 3))))) ?_ _ _ _ _ ?_
          · rintro h5 q_6 u_7 t_8 ⟨rfl, j9⟩ ihh5
            try dsimp only at ihh5
            refine sx_iload dX6_rowOf_32 rfl ?_
            refine sx_iconst dX6_rowOf_34 ⟨by decide, by decide⟩ ?_
            refine sx_icmp_lt (tgt := 100) dX6_rowOf_35 (by decide) (fun c10 => ?_) (fun c10 => ?_)
            ·
              refine sx_iload_n dX6_rowOf_100 rfl ?_
              refine sx_ireturn dX6_rowOf_101 ?_
              exact ⟨_, rfl, ⟨rfl, by omega⟩⟩
            ·
              refine sx_iload_n dX6_rowOf_38 rfl ?_
              refine sx_iload dX6_rowOf_39 rfl ?_
              refine sx_idiv dX6_rowOf_41 (by first | omega | (rw [Int.tmod_eq_emod_of_nonneg (by omega)]; omega) | (rw [Int.tdiv_eq_ediv_of_nonneg (by omega)]; omega)) ?_
              refine sx_bipush dX6_rowOf_42 ⟨by decide, by decide, by decide⟩ ?_
              refine sx_irem dX6_rowOf_44 (by first | omega | (rw [Int.tmod_eq_emod_of_nonneg (by omega)]; omega) | (rw [Int.tdiv_eq_ediv_of_nonneg (by omega)]; omega)) ?_
              refine sy_top (fun v11 ev11 => ?_)
              refine sx_istore dX6_rowOf_45 (by decide) ?_
              refine sx_iload dX6_rowOf_47 rfl ?_
              refine sx_if_ne (tgt := 57) dX6_rowOf_49 (by decide) (fun c12 => ?_) (fun c12 => ?_)
              ·
                refine sx_iconst dX6_rowOf_57 ⟨by decide, by decide⟩ ?_
                refine sx_goto (tgt := 62) dX6_rowOf_58 (by decide) ?_
                refine sx_istore dX6_rowOf_62 (by decide) ?_
                refine sx_iload dX6_rowOf_64 rfl ?_
                refine sx_if_eq (tgt := 83) dX6_rowOf_66 (by decide) (fun c13 => ?_) (fun c13 => ?_)
                ·
                  exact absurd c13 (by decide)
                ·
                  refine sx_iload dX6_rowOf_69 rfl ?_
                  refine sx_iconst dX6_rowOf_71 ⟨by decide, by decide⟩ ?_
                  refine sx_icmp_lt (tgt := 81) dX6_rowOf_72 (by decide) (fun c14 => ?_) (fun c14 => ?_)
                  ·
                    refine sx_iconst dX6_rowOf_81 ⟨by decide, by decide⟩ ?_
                    refine sx_ireturn dX6_rowOf_82 ?_
                    exact ⟨_, rfl, ⟨rfl, by omega⟩⟩
                  ·
                    refine sx_iload dX6_rowOf_75 rfl ?_
                    refine sx_iload_n dX6_rowOf_77 rfl ?_
                    refine sx_icmp_le (tgt := 83) dX6_rowOf_78 (by decide) (fun c15 => ?_) (fun c15 => ?_)
                    ·
                      refine sx_iload_n dX6_rowOf_83 rfl ?_
                      refine sx_iconst dX6_rowOf_84 ⟨by decide, by decide⟩ ?_
                      refine sx_imul dX6_rowOf_85 ?_
                      refine sy_topw (by first | omega | (rw [Int.tmod_eq_emod_of_nonneg (by omega)]; omega) | (rw [Int.tdiv_eq_ediv_of_nonneg (by omega)]; omega)) ?_
                      refine sx_iload dX6_rowOf_86 rfl ?_
                      refine sx_iadd dX6_rowOf_88 ?_
                      refine sy_topw (by first | omega | (rw [Int.tmod_eq_emod_of_nonneg (by omega)]; omega) | (rw [Int.tdiv_eq_ediv_of_nonneg (by omega)]; omega)) ?_
                      refine sy_top (fun v16 ev16 => ?_)
                      refine sx_istore_n dX6_rowOf_89 (by decide) ?_
                      refine sx_iload dX6_rowOf_90 rfl ?_
                      refine sx_bipush dX6_rowOf_92 ⟨by decide, by decide, by decide⟩ ?_
                      refine sx_idiv dX6_rowOf_94 (by first | omega | (rw [Int.tmod_eq_emod_of_nonneg (by omega)]; omega) | (rw [Int.tdiv_eq_ediv_of_nonneg (by omega)]; omega)) ?_
                      refine sy_topw (by first | omega | (rw [Int.tmod_eq_emod_of_nonneg (by omega)]; omega) | (rw [Int.tdiv_eq_ediv_of_nonneg (by omega)]; omega)) ?_
                      refine sy_top (fun v17 ev17 => ?_)
                      refine sx_istore dX6_rowOf_95 (by decide) ?_
                      rw [Int.tdiv_eq_ediv_of_nonneg (by omega)] at ev17
                      refine sx_goto (tgt := 32) dX6_rowOf_97 (by decide) ?_
                      refine sx_kill 6 ?_
                      exact ihh5 _ _ _ _ ⟨rfl, by first | omega | (rw [Int.tmod_eq_emod_of_nonneg (by omega)]; omega) | (rw [Int.tdiv_eq_ediv_of_nonneg (by omega)]; omega)⟩ (by exact sy_dec (by first | omega | (rw [Int.tmod_eq_emod_of_nonneg (by omega)]; omega) | (rw [Int.tdiv_eq_ediv_of_nonneg (by omega)]; omega)) (by first | omega | (rw [Int.tmod_eq_emod_of_nonneg (by omega)]; omega) | (rw [Int.tdiv_eq_ediv_of_nonneg (by omega)]; omega)))
                    ·
                      refine sx_iconst dX6_rowOf_81 ⟨by decide, by decide⟩ ?_
                      refine sx_ireturn dX6_rowOf_82 ?_
                      exact ⟨_, rfl, ⟨rfl, by omega⟩⟩
              ·
                refine sx_iload dX6_rowOf_52 rfl ?_
                refine sx_if_eq (tgt := 61) dX6_rowOf_54 (by decide) (fun c18 => ?_) (fun c18 => ?_)
                ·
                  refine sx_iconst dX6_rowOf_61 ⟨by decide, by decide⟩ ?_
                  refine sx_istore dX6_rowOf_62 (by decide) ?_
                  refine sx_iload dX6_rowOf_64 rfl ?_
                  refine sx_if_eq (tgt := 83) dX6_rowOf_66 (by decide) (fun c19 => ?_) (fun c19 => ?_)
                  ·
                    refine sx_iload_n dX6_rowOf_83 rfl ?_
                    refine sx_iconst dX6_rowOf_84 ⟨by decide, by decide⟩ ?_
                    refine sx_imul dX6_rowOf_85 ?_
                    refine sy_topw (by first | omega | (rw [Int.tmod_eq_emod_of_nonneg (by omega)]; omega) | (rw [Int.tdiv_eq_ediv_of_nonneg (by omega)]; omega)) ?_
                    refine sx_iload dX6_rowOf_86 rfl ?_
                    refine sx_iadd dX6_rowOf_88 ?_
                    refine sy_topw (by first | omega | (rw [Int.tmod_eq_emod_of_nonneg (by omega)]; omega) | (rw [Int.tdiv_eq_ediv_of_nonneg (by omega)]; omega)) ?_
                    refine sy_top (fun v20 ev20 => ?_)
                    refine sx_istore_n dX6_rowOf_89 (by decide) ?_
                    refine sx_iload dX6_rowOf_90 rfl ?_
                    refine sx_bipush dX6_rowOf_92 ⟨by decide, by decide, by decide⟩ ?_
                    refine sx_idiv dX6_rowOf_94 (by first | omega | (rw [Int.tmod_eq_emod_of_nonneg (by omega)]; omega) | (rw [Int.tdiv_eq_ediv_of_nonneg (by omega)]; omega)) ?_
                    refine sy_topw (by first | omega | (rw [Int.tmod_eq_emod_of_nonneg (by omega)]; omega) | (rw [Int.tdiv_eq_ediv_of_nonneg (by omega)]; omega)) ?_
                    refine sy_top (fun v21 ev21 => ?_)
                    refine sx_istore dX6_rowOf_95 (by decide) ?_
                    rw [Int.tdiv_eq_ediv_of_nonneg (by omega)] at ev21
                    refine sx_goto (tgt := 32) dX6_rowOf_97 (by decide) ?_
                    refine sx_kill 6 ?_
                    exact ihh5 _ _ _ _ ⟨rfl, by first | omega | (rw [Int.tmod_eq_emod_of_nonneg (by omega)]; omega) | (rw [Int.tdiv_eq_ediv_of_nonneg (by omega)]; omega)⟩ (by exact sy_dec (by first | omega | (rw [Int.tmod_eq_emod_of_nonneg (by omega)]; omega) | (rw [Int.tdiv_eq_ediv_of_nonneg (by omega)]; omega)) (by first | omega | (rw [Int.tmod_eq_emod_of_nonneg (by omega)]; omega) | (rw [Int.tdiv_eq_ediv_of_nonneg (by omega)]; omega)))
                  ·
                    exact absurd c19 (by decide)
                ·
                  refine sx_iconst dX6_rowOf_57 ⟨by decide, by decide⟩ ?_
                  refine sx_goto (tgt := 62) dX6_rowOf_58 (by decide) ?_
                  refine sx_istore dX6_rowOf_62 (by decide) ?_
                  refine sx_iload dX6_rowOf_64 rfl ?_
                  refine sx_if_eq (tgt := 83) dX6_rowOf_66 (by decide) (fun c22 => ?_) (fun c22 => ?_)
                  ·
                    exact absurd c22 (by decide)
                  ·
                    refine sx_iload dX6_rowOf_69 rfl ?_
                    refine sx_iconst dX6_rowOf_71 ⟨by decide, by decide⟩ ?_
                    refine sx_icmp_lt (tgt := 81) dX6_rowOf_72 (by decide) (fun c23 => ?_) (fun c23 => ?_)
                    ·
                      refine sx_iconst dX6_rowOf_81 ⟨by decide, by decide⟩ ?_
                      refine sx_ireturn dX6_rowOf_82 ?_
                      exact ⟨_, rfl, ⟨rfl, by omega⟩⟩
                    ·
                      refine sx_iload dX6_rowOf_75 rfl ?_
                      refine sx_iload_n dX6_rowOf_77 rfl ?_
                      refine sx_icmp_le (tgt := 83) dX6_rowOf_78 (by decide) (fun c24 => ?_) (fun c24 => ?_)
                      ·
                        refine sx_iload_n dX6_rowOf_83 rfl ?_
                        refine sx_iconst dX6_rowOf_84 ⟨by decide, by decide⟩ ?_
                        refine sx_imul dX6_rowOf_85 ?_
                        refine sy_topw (by first | omega | (rw [Int.tmod_eq_emod_of_nonneg (by omega)]; omega) | (rw [Int.tdiv_eq_ediv_of_nonneg (by omega)]; omega)) ?_
                        refine sx_iload dX6_rowOf_86 rfl ?_
                        refine sx_iadd dX6_rowOf_88 ?_
                        refine sy_topw (by first | omega | (rw [Int.tmod_eq_emod_of_nonneg (by omega)]; omega) | (rw [Int.tdiv_eq_ediv_of_nonneg (by omega)]; omega)) ?_
                        refine sy_top (fun v25 ev25 => ?_)
                        refine sx_istore_n dX6_rowOf_89 (by decide) ?_
                        refine sx_iload dX6_rowOf_90 rfl ?_
                        refine sx_bipush dX6_rowOf_92 ⟨by decide, by decide, by decide⟩ ?_
                        refine sx_idiv dX6_rowOf_94 (by first | omega | (rw [Int.tmod_eq_emod_of_nonneg (by omega)]; omega) | (rw [Int.tdiv_eq_ediv_of_nonneg (by omega)]; omega)) ?_
                        refine sy_topw (by first | omega | (rw [Int.tmod_eq_emod_of_nonneg (by omega)]; omega) | (rw [Int.tdiv_eq_ediv_of_nonneg (by omega)]; omega)) ?_
                        refine sy_top (fun v26 ev26 => ?_)
                        refine sx_istore dX6_rowOf_95 (by decide) ?_
                        rw [Int.tdiv_eq_ediv_of_nonneg (by omega)] at ev26
                        refine sx_goto (tgt := 32) dX6_rowOf_97 (by decide) ?_
                        refine sx_kill 6 ?_
                        exact ihh5 _ _ _ _ ⟨rfl, by first | omega | (rw [Int.tmod_eq_emod_of_nonneg (by omega)]; omega) | (rw [Int.tdiv_eq_ediv_of_nonneg (by omega)]; omega)⟩ (by exact sy_dec (by first | omega | (rw [Int.tmod_eq_emod_of_nonneg (by omega)]; omega) | (rw [Int.tdiv_eq_ediv_of_nonneg (by omega)]; omega)) (by first | omega | (rw [Int.tmod_eq_emod_of_nonneg (by omega)]; omega) | (rw [Int.tdiv_eq_ediv_of_nonneg (by omega)]; omega)))
                      ·
                        refine sx_iconst dX6_rowOf_81 ⟨by decide, by decide⟩ ?_
                        refine sx_ireturn dX6_rowOf_82 ?_
                        exact ⟨_, rfl, ⟨rfl, by omega⟩⟩
          · exact ⟨rfl, by first | omega | (rw [Int.tmod_eq_emod_of_nonneg (by omega)]; omega) | (rw [Int.tdiv_eq_ediv_of_nonneg (by omega)]; omega)⟩
        ·
          refine sx_iconst dX6_rowOf_20 ⟨by decide, by decide⟩ ?_
          refine sx_ireturn dX6_rowOf_21 ?_
          exact ⟨_, rfl, ⟨rfl, by omega⟩⟩
set_option maxRecDepth 20000 in
set_option maxHeartbeats 4000000 in
theorem c_X6_follow {G : sw_G} (d : Nat) {h0 : sw_H} (hJ : cJ h0) (n m : Int) : sw_E G NH SH (d + 2) mX6_follow 0 [some (sw_r 182), some (sw_i n), some (sw_i m), none, none, none, none] [] h0 (sw_Qi (fun z h' => h0 = h')) := by
  have hI : cK pr0 h0 h0 := cK.refl hJ
  refine sx_iload_n dX6_follow_0 rfl ?_
  refine sx_if_lt (tgt := 19) dX6_follow_1 (by decide) (fun c1 => ?_) (fun c1 => ?_)
  ·
    refine sx_iconst dX6_follow_19 ⟨by decide, by decide⟩ ?_
    refine sx_ireturn dX6_follow_20 ?_
    exact ⟨_, rfl, rfl⟩
  ·
    refine sx_iload_n dX6_follow_4 rfl ?_
    refine sx_iconst dX6_follow_5 ⟨by decide, by decide⟩ ?_
    refine sx_icmp_gt (tgt := 19) dX6_follow_6 (by decide) (fun c2 => ?_) (fun c2 => ?_)
    ·
      refine sx_iconst dX6_follow_19 ⟨by decide, by decide⟩ ?_
      refine sx_ireturn dX6_follow_20 ?_
      exact ⟨_, rfl, rfl⟩
    ·
      refine sx_iload_n dX6_follow_9 rfl ?_
      refine sx_if_lt (tgt := 19) dX6_follow_10 (by decide) (fun c3 => ?_) (fun c3 => ?_)
      ·
        refine sx_iconst dX6_follow_19 ⟨by decide, by decide⟩ ?_
        refine sx_ireturn dX6_follow_20 ?_
        exact ⟨_, rfl, rfl⟩
      ·
        refine sx_iload_n dX6_follow_13 rfl ?_
        refine sx_ldc kc_X6_80 ⟨by decide, by decide⟩ dX6_follow_14 ?_
        refine sx_icmp_le (tgt := 21) dX6_follow_16 (by decide) (fun c4 => ?_) (fun c4 => ?_)
        ·
          refine sx_iload_n dX6_follow_21 rfl ?_
          refine sx_callSi lk_X6_52 dX6_follow_22 (vs := [_]) rfl rfl (Nat.le_of_ble_eq_true rfl) (Nat.le_of_ble_eq_true rfl) rfl (c_X6_firstRow _ hI.1 _ (by omega)) (fun x6 h5 ph5 => ?_)
          obtain ⟨rfl, s_x6⟩ := ph5
          refine sx_istore_n dX6_follow_25 (by decide) ?_
          refine sx_iconst dX6_follow_26 ⟨by decide, by decide⟩ ?_
          refine sx_istore dX6_follow_27 (by decide) ?_
          refine sx_ldc kc_X6_81 ⟨by decide, by decide⟩ dX6_follow_29 ?_
          refine sx_istore dX6_follow_31 (by decide) ?_
          refine sx_loop3 (fun (h : sw_H) (q : Int) (u : Int) (t : Int) => (h0 = h) ∧ (0 ≤ q) ∧ (q ≤ 1023) ∧ (0 ≤ t) ∧ (t ≤ 1000000)) (fun (h : sw_H) (q : Int) (u : Int) (t : Int) => t.toNat) (fun (h : sw_H) (q : Int) (u : Int) (t : Int) => sw_E G NH SH (d + 2) mX6_follow 33 [some (sw_r 182), some (sw_i n), some (sw_i m), some (sw_i q), some (sw_i u), some (sw_i t), none] [] h (sw_Qi (fun z h' => h0 = h'))) ?_ _ _ _ _ ?_
          · rintro h7 q_8 u_9 t_10 ⟨rfl, j11, j12, j13, j14⟩ ihh7
            try dsimp only at ihh7
            refine sx_iload dX6_follow_33 rfl ?_
            refine sx_iconst dX6_follow_35 ⟨by decide, by decide⟩ ?_
            refine sx_icmp_lt (tgt := 113) dX6_follow_36 (by decide) (fun c15 => ?_) (fun c15 => ?_)
            ·
              refine sx_iload_n dX6_follow_113 rfl ?_
              refine sx_sipush dX6_follow_114 ⟨by decide, by decide, by decide⟩ ?_
              refine sx_icmp_le (tgt := 124) dX6_follow_117 (by decide) (fun c16 => ?_) (fun c16 => ?_)
              ·
                refine sx_iload_n dX6_follow_124 rfl ?_
                refine sx_callSi lk_X6_82 dX6_follow_125 (vs := [_]) rfl rfl (Nat.le_of_ble_eq_true rfl) (Nat.le_of_ble_eq_true rfl) rfl (c_X6_digitsOf _ hI.1 _) (fun x18 h17 ph17 => ?_)
                subst ph17
                refine sx_ireturn dX6_follow_128 ?_
                exact ⟨_, rfl, rfl⟩
              ·
                refine sx_iconst dX6_follow_120 ⟨by decide, by decide⟩ ?_
                refine sx_goto (tgt := 128) dX6_follow_121 (by decide) ?_
                refine sx_ireturn dX6_follow_128 ?_
                exact ⟨_, rfl, rfl⟩
            ·
              refine sx_iload_n dX6_follow_39 rfl ?_
              refine sx_iload dX6_follow_40 rfl ?_
              refine sx_idiv dX6_follow_42 (by first | omega | (rw [Int.tmod_eq_emod_of_nonneg (by omega)]; omega) | (rw [Int.tdiv_eq_ediv_of_nonneg (by omega)]; omega)) ?_
              refine sx_bipush dX6_follow_43 ⟨by decide, by decide, by decide⟩ ?_
              refine sx_irem dX6_follow_45 (by first | omega | (rw [Int.tmod_eq_emod_of_nonneg (by omega)]; omega) | (rw [Int.tdiv_eq_ediv_of_nonneg (by omega)]; omega)) ?_
              refine sy_top (fun v19 ev19 => ?_)
              refine sx_istore dX6_follow_46 (by decide) ?_
              refine sx_iload dX6_follow_48 rfl ?_
              refine sx_if_ne (tgt := 58) dX6_follow_50 (by decide) (fun c20 => ?_) (fun c20 => ?_)
              ·
                refine sx_iconst dX6_follow_58 ⟨by decide, by decide⟩ ?_
                refine sx_goto (tgt := 63) dX6_follow_59 (by decide) ?_
                refine sx_istore dX6_follow_63 (by decide) ?_
                refine sx_iload dX6_follow_65 rfl ?_
                refine sx_if_eq (tgt := 96) dX6_follow_67 (by decide) (fun c21 => ?_) (fun c21 => ?_)
                ·
                  exact absurd c21 (by decide)
                ·
                  refine sx_iload dX6_follow_70 rfl ?_
                  refine sx_iconst dX6_follow_72 ⟨by decide, by decide⟩ ?_
                  refine sx_icmp_lt (tgt := 83) dX6_follow_73 (by decide) (fun c22 => ?_) (fun c22 => ?_)
                  ·
                    refine sx_iconst dX6_follow_83 ⟨by decide, by decide⟩ ?_
                    refine sx_goto (tgt := 95) dX6_follow_84 (by decide) ?_
                    refine sx_istore_n dX6_follow_95 (by decide) ?_
                    refine sx_iload_n dX6_follow_96 rfl ?_
                    refine sx_iconst dX6_follow_97 ⟨by decide, by decide⟩ ?_
                    refine sx_icmp_ne (tgt := 103) dX6_follow_98 (by decide) (fun c23 => ?_) (fun c23 => ?_)
                    ·
                      exact absurd c23 (by decide)
                    ·
                      refine sx_iconst dX6_follow_101 ⟨by decide, by decide⟩ ?_
                      refine sx_ireturn dX6_follow_102 ?_
                      exact ⟨_, rfl, rfl⟩
                  ·
                    refine sx_iload dX6_follow_76 rfl ?_
                    refine sx_bipush dX6_follow_78 ⟨by decide, by decide, by decide⟩ ?_
                    refine sx_icmp_le (tgt := 87) dX6_follow_80 (by decide) (fun c24 => ?_) (fun c24 => ?_)
                    ·
                      refine sx_iload_n dX6_follow_87 rfl ?_
                      refine sx_iload dX6_follow_88 rfl ?_
                      refine sx_iconst dX6_follow_90 ⟨by decide, by decide⟩ ?_
                      refine sx_isub dX6_follow_91 ?_
                      refine sy_topw (by first | omega | (rw [Int.tmod_eq_emod_of_nonneg (by omega)]; omega) | (rw [Int.tdiv_eq_ediv_of_nonneg (by omega)]; omega)) ?_
                      refine sx_callSi lk_X6_68 dX6_follow_92 (vs := [_, _]) rfl rfl (Nat.le_of_ble_eq_true rfl) (Nat.le_of_ble_eq_true rfl) rfl (c_X6_shuffle _ hI.1 _ _ (by omega) (by omega)) (fun x26 h25 ph25 => ?_)
                      obtain ⟨rfl, s_x26⟩ := ph25
                      refine sx_istore_n dX6_follow_95 (by decide) ?_
                      refine sx_iload_n dX6_follow_96 rfl ?_
                      refine sx_iconst dX6_follow_97 ⟨by decide, by decide⟩ ?_
                      refine sx_icmp_ne (tgt := 103) dX6_follow_98 (by decide) (fun c27 => ?_) (fun c27 => ?_)
                      ·
                        refine sx_iload dX6_follow_103 rfl ?_
                        refine sx_bipush dX6_follow_105 ⟨by decide, by decide, by decide⟩ ?_
                        refine sx_idiv dX6_follow_107 (by first | omega | (rw [Int.tmod_eq_emod_of_nonneg (by omega)]; omega) | (rw [Int.tdiv_eq_ediv_of_nonneg (by omega)]; omega)) ?_
                        refine sy_topw (by first | omega | (rw [Int.tmod_eq_emod_of_nonneg (by omega)]; omega) | (rw [Int.tdiv_eq_ediv_of_nonneg (by omega)]; omega)) ?_
                        refine sy_top (fun v28 ev28 => ?_)
                        refine sx_istore dX6_follow_108 (by decide) ?_
                        rw [Int.tdiv_eq_ediv_of_nonneg (by omega)] at ev28
                        refine sx_goto (tgt := 33) dX6_follow_110 (by decide) ?_
                        refine sx_kill 6 ?_
                        exact ihh7 _ _ _ _ ⟨rfl, by first | omega | (rw [Int.tmod_eq_emod_of_nonneg (by omega)]; omega) | (rw [Int.tdiv_eq_ediv_of_nonneg (by omega)]; omega), by first | omega | (rw [Int.tmod_eq_emod_of_nonneg (by omega)]; omega) | (rw [Int.tdiv_eq_ediv_of_nonneg (by omega)]; omega), by first | omega | (rw [Int.tmod_eq_emod_of_nonneg (by omega)]; omega) | (rw [Int.tdiv_eq_ediv_of_nonneg (by omega)]; omega), by first | omega | (rw [Int.tmod_eq_emod_of_nonneg (by omega)]; omega) | (rw [Int.tdiv_eq_ediv_of_nonneg (by omega)]; omega)⟩ (by exact sy_dec (by first | omega | (rw [Int.tmod_eq_emod_of_nonneg (by omega)]; omega) | (rw [Int.tdiv_eq_ediv_of_nonneg (by omega)]; omega)) (by first | omega | (rw [Int.tmod_eq_emod_of_nonneg (by omega)]; omega) | (rw [Int.tdiv_eq_ediv_of_nonneg (by omega)]; omega)))
                      ·
                        refine sx_iconst dX6_follow_101 ⟨by decide, by decide⟩ ?_
                        refine sx_ireturn dX6_follow_102 ?_
                        exact ⟨_, rfl, rfl⟩
                    ·
                      refine sx_iconst dX6_follow_83 ⟨by decide, by decide⟩ ?_
                      refine sx_goto (tgt := 95) dX6_follow_84 (by decide) ?_
                      refine sx_istore_n dX6_follow_95 (by decide) ?_
                      refine sx_iload_n dX6_follow_96 rfl ?_
                      refine sx_iconst dX6_follow_97 ⟨by decide, by decide⟩ ?_
                      refine sx_icmp_ne (tgt := 103) dX6_follow_98 (by decide) (fun c29 => ?_) (fun c29 => ?_)
                      ·
                        exact absurd c29 (by decide)
                      ·
                        refine sx_iconst dX6_follow_101 ⟨by decide, by decide⟩ ?_
                        refine sx_ireturn dX6_follow_102 ?_
                        exact ⟨_, rfl, rfl⟩
              ·
                refine sx_iload dX6_follow_53 rfl ?_
                refine sx_if_eq (tgt := 62) dX6_follow_55 (by decide) (fun c30 => ?_) (fun c30 => ?_)
                ·
                  refine sx_iconst dX6_follow_62 ⟨by decide, by decide⟩ ?_
                  refine sx_istore dX6_follow_63 (by decide) ?_
                  refine sx_iload dX6_follow_65 rfl ?_
                  refine sx_if_eq (tgt := 96) dX6_follow_67 (by decide) (fun c31 => ?_) (fun c31 => ?_)
                  ·
                    refine sx_iload_n dX6_follow_96 rfl ?_
                    refine sx_iconst dX6_follow_97 ⟨by decide, by decide⟩ ?_
                    refine sx_icmp_ne (tgt := 103) dX6_follow_98 (by decide) (fun c32 => ?_) (fun c32 => ?_)
                    ·
                      refine sx_iload dX6_follow_103 rfl ?_
                      refine sx_bipush dX6_follow_105 ⟨by decide, by decide, by decide⟩ ?_
                      refine sx_idiv dX6_follow_107 (by first | omega | (rw [Int.tmod_eq_emod_of_nonneg (by omega)]; omega) | (rw [Int.tdiv_eq_ediv_of_nonneg (by omega)]; omega)) ?_
                      refine sy_topw (by first | omega | (rw [Int.tmod_eq_emod_of_nonneg (by omega)]; omega) | (rw [Int.tdiv_eq_ediv_of_nonneg (by omega)]; omega)) ?_
                      refine sy_top (fun v33 ev33 => ?_)
                      refine sx_istore dX6_follow_108 (by decide) ?_
                      rw [Int.tdiv_eq_ediv_of_nonneg (by omega)] at ev33
                      refine sx_goto (tgt := 33) dX6_follow_110 (by decide) ?_
                      refine sx_kill 6 ?_
                      exact ihh7 _ _ _ _ ⟨rfl, by first | omega | (rw [Int.tmod_eq_emod_of_nonneg (by omega)]; omega) | (rw [Int.tdiv_eq_ediv_of_nonneg (by omega)]; omega), by first | omega | (rw [Int.tmod_eq_emod_of_nonneg (by omega)]; omega) | (rw [Int.tdiv_eq_ediv_of_nonneg (by omega)]; omega), by first | omega | (rw [Int.tmod_eq_emod_of_nonneg (by omega)]; omega) | (rw [Int.tdiv_eq_ediv_of_nonneg (by omega)]; omega), by first | omega | (rw [Int.tmod_eq_emod_of_nonneg (by omega)]; omega) | (rw [Int.tdiv_eq_ediv_of_nonneg (by omega)]; omega)⟩ (by exact sy_dec (by first | omega | (rw [Int.tmod_eq_emod_of_nonneg (by omega)]; omega) | (rw [Int.tdiv_eq_ediv_of_nonneg (by omega)]; omega)) (by first | omega | (rw [Int.tmod_eq_emod_of_nonneg (by omega)]; omega) | (rw [Int.tdiv_eq_ediv_of_nonneg (by omega)]; omega)))
                    ·
                      refine sx_iconst dX6_follow_101 ⟨by decide, by decide⟩ ?_
                      refine sx_ireturn dX6_follow_102 ?_
                      exact ⟨_, rfl, rfl⟩
                  ·
                    exact absurd c31 (by decide)
                ·
                  refine sx_iconst dX6_follow_58 ⟨by decide, by decide⟩ ?_
                  refine sx_goto (tgt := 63) dX6_follow_59 (by decide) ?_
                  refine sx_istore dX6_follow_63 (by decide) ?_
                  refine sx_iload dX6_follow_65 rfl ?_
                  refine sx_if_eq (tgt := 96) dX6_follow_67 (by decide) (fun c34 => ?_) (fun c34 => ?_)
                  ·
                    exact absurd c34 (by decide)
                  ·
                    refine sx_iload dX6_follow_70 rfl ?_
                    refine sx_iconst dX6_follow_72 ⟨by decide, by decide⟩ ?_
                    refine sx_icmp_lt (tgt := 83) dX6_follow_73 (by decide) (fun c35 => ?_) (fun c35 => ?_)
                    ·
                      refine sx_iconst dX6_follow_83 ⟨by decide, by decide⟩ ?_
                      refine sx_goto (tgt := 95) dX6_follow_84 (by decide) ?_
                      refine sx_istore_n dX6_follow_95 (by decide) ?_
                      refine sx_iload_n dX6_follow_96 rfl ?_
                      refine sx_iconst dX6_follow_97 ⟨by decide, by decide⟩ ?_
                      refine sx_icmp_ne (tgt := 103) dX6_follow_98 (by decide) (fun c36 => ?_) (fun c36 => ?_)
                      ·
                        exact absurd c36 (by decide)
                      ·
                        refine sx_iconst dX6_follow_101 ⟨by decide, by decide⟩ ?_
                        refine sx_ireturn dX6_follow_102 ?_
                        exact ⟨_, rfl, rfl⟩
                    ·
                      refine sx_iload dX6_follow_76 rfl ?_
                      refine sx_bipush dX6_follow_78 ⟨by decide, by decide, by decide⟩ ?_
                      refine sx_icmp_le (tgt := 87) dX6_follow_80 (by decide) (fun c37 => ?_) (fun c37 => ?_)
                      ·
                        refine sx_iload_n dX6_follow_87 rfl ?_
                        refine sx_iload dX6_follow_88 rfl ?_
                        refine sx_iconst dX6_follow_90 ⟨by decide, by decide⟩ ?_
                        refine sx_isub dX6_follow_91 ?_
                        refine sy_topw (by first | omega | (rw [Int.tmod_eq_emod_of_nonneg (by omega)]; omega) | (rw [Int.tdiv_eq_ediv_of_nonneg (by omega)]; omega)) ?_
                        refine sx_callSi lk_X6_68 dX6_follow_92 (vs := [_, _]) rfl rfl (Nat.le_of_ble_eq_true rfl) (Nat.le_of_ble_eq_true rfl) rfl (c_X6_shuffle _ hI.1 _ _ (by omega) (by omega)) (fun x39 h38 ph38 => ?_)
                        obtain ⟨rfl, s_x39⟩ := ph38
                        refine sx_istore_n dX6_follow_95 (by decide) ?_
                        refine sx_iload_n dX6_follow_96 rfl ?_
                        refine sx_iconst dX6_follow_97 ⟨by decide, by decide⟩ ?_
                        refine sx_icmp_ne (tgt := 103) dX6_follow_98 (by decide) (fun c40 => ?_) (fun c40 => ?_)
                        ·
                          refine sx_iload dX6_follow_103 rfl ?_
                          refine sx_bipush dX6_follow_105 ⟨by decide, by decide, by decide⟩ ?_
                          refine sx_idiv dX6_follow_107 (by first | omega | (rw [Int.tmod_eq_emod_of_nonneg (by omega)]; omega) | (rw [Int.tdiv_eq_ediv_of_nonneg (by omega)]; omega)) ?_
                          refine sy_topw (by first | omega | (rw [Int.tmod_eq_emod_of_nonneg (by omega)]; omega) | (rw [Int.tdiv_eq_ediv_of_nonneg (by omega)]; omega)) ?_
                          refine sy_top (fun v41 ev41 => ?_)
                          refine sx_istore dX6_follow_108 (by decide) ?_
                          rw [Int.tdiv_eq_ediv_of_nonneg (by omega)] at ev41
                          refine sx_goto (tgt := 33) dX6_follow_110 (by decide) ?_
                          refine sx_kill 6 ?_
                          exact ihh7 _ _ _ _ ⟨rfl, by first | omega | (rw [Int.tmod_eq_emod_of_nonneg (by omega)]; omega) | (rw [Int.tdiv_eq_ediv_of_nonneg (by omega)]; omega), by first | omega | (rw [Int.tmod_eq_emod_of_nonneg (by omega)]; omega) | (rw [Int.tdiv_eq_ediv_of_nonneg (by omega)]; omega), by first | omega | (rw [Int.tmod_eq_emod_of_nonneg (by omega)]; omega) | (rw [Int.tdiv_eq_ediv_of_nonneg (by omega)]; omega), by first | omega | (rw [Int.tmod_eq_emod_of_nonneg (by omega)]; omega) | (rw [Int.tdiv_eq_ediv_of_nonneg (by omega)]; omega)⟩ (by exact sy_dec (by first | omega | (rw [Int.tmod_eq_emod_of_nonneg (by omega)]; omega) | (rw [Int.tdiv_eq_ediv_of_nonneg (by omega)]; omega)) (by first | omega | (rw [Int.tmod_eq_emod_of_nonneg (by omega)]; omega) | (rw [Int.tdiv_eq_ediv_of_nonneg (by omega)]; omega)))
                        ·
                          refine sx_iconst dX6_follow_101 ⟨by decide, by decide⟩ ?_
                          refine sx_ireturn dX6_follow_102 ?_
                          exact ⟨_, rfl, rfl⟩
                      ·
                        refine sx_iconst dX6_follow_83 ⟨by decide, by decide⟩ ?_
                        refine sx_goto (tgt := 95) dX6_follow_84 (by decide) ?_
                        refine sx_istore_n dX6_follow_95 (by decide) ?_
                        refine sx_iload_n dX6_follow_96 rfl ?_
                        refine sx_iconst dX6_follow_97 ⟨by decide, by decide⟩ ?_
                        refine sx_icmp_ne (tgt := 103) dX6_follow_98 (by decide) (fun c42 => ?_) (fun c42 => ?_)
                        ·
                          exact absurd c42 (by decide)
                        ·
                          refine sx_iconst dX6_follow_101 ⟨by decide, by decide⟩ ?_
                          refine sx_ireturn dX6_follow_102 ?_
                          exact ⟨_, rfl, rfl⟩
          · exact ⟨rfl, by first | omega | (rw [Int.tmod_eq_emod_of_nonneg (by omega)]; omega) | (rw [Int.tdiv_eq_ediv_of_nonneg (by omega)]; omega), by first | omega | (rw [Int.tmod_eq_emod_of_nonneg (by omega)]; omega) | (rw [Int.tdiv_eq_ediv_of_nonneg (by omega)]; omega), by first | omega | (rw [Int.tmod_eq_emod_of_nonneg (by omega)]; omega) | (rw [Int.tdiv_eq_ediv_of_nonneg (by omega)]; omega), by first | omega | (rw [Int.tmod_eq_emod_of_nonneg (by omega)]; omega) | (rw [Int.tdiv_eq_ediv_of_nonneg (by omega)]; omega)⟩
        ·
          refine sx_iconst dX6_follow_19 ⟨by decide, by decide⟩ ?_
          refine sx_ireturn dX6_follow_20 ?_
          exact ⟨_, rfl, rfl⟩
set_option maxRecDepth 20000 in
set_option maxHeartbeats 4000000 in
theorem c_X6_meet {G : sw_G} (d : Nat) {h0 : sw_H} (hJ : cJ h0) (r t f : Int) (hr : 0 ≤ r ∧ r ≤ 1023) (hf : 0 ≤ f ∧ f ≤ 1023) : sw_E G NH SH (d) mX6_meet 0 [some (sw_r 182), some (sw_i r), some (sw_i t), some (sw_i f)] [] h0 (sw_Qv (fun h' => cK prI h0 h')) := by
  have hI : cK prI h0 h0 := cK.refl hJ
  refine sx_aload_n dX6_meet_0 rfl ?_
  refine sx_getI (k := 1) cl_6 fl_X6_61 dX6_meet_1 s_182 (by decide) rfl (by decide) ?_
  have r1 : (0 : Int) ≤ h0 182 1 ∧ h0 182 1 ≤ 364 := hI.1.1 182 1
  refine sx_sipush dX6_meet_4 ⟨by decide, by decide, by decide⟩ ?_
  refine sx_icmp_ge (tgt := 44) dX6_meet_7 (by decide) (fun c2 => ?_) (fun c2 => ?_)
  ·
    refine sx_ret dX6_meet_44 ?_
    exact ⟨rfl, hI⟩
  ·
    refine sx_aload_n dX6_meet_10 rfl ?_
    refine sx_getS (k := 2) (t := 184) cl_6 fl_X6_15 dX6_meet_11 s_182 (by decide) rfl (by decide) ?_
    refine sx_iload_n dX6_meet_14 rfl ?_
    refine sx_iload_n dX6_meet_15 rfl ?_
    refine sy_iastore dX6_meet_16 s_184 (by decide) (by decide) ⟨by omega, by omega⟩ (fun h3 eh3 => ?_)
    have Ih3 := hI.up eh3 trivial rfl rfl
    have th3_182_1 := eh3.2 (182) 1 (by omega)
    refine sx_aload_n dX6_meet_17 rfl ?_
    refine sx_getS (k := 3) (t := 185) cl_6 fl_X6_18 dX6_meet_18 s_182 (by decide) rfl (by decide) ?_
    refine sx_iload_n dX6_meet_21 rfl ?_
    refine sx_iload_n dX6_meet_22 rfl ?_
    refine sy_iastore dX6_meet_23 s_185 (by decide) (by decide) ⟨by omega, by omega⟩ (fun h4 eh4 => ?_)
    have Ih4 := Ih3.up eh4 (show (0 : Int) ≤ _ ∧ _ ≤ (1023 : Int) from ⟨by omega, by omega⟩) rfl rfl
    have th4_182_1 := eh4.2 (182) 1 (by omega)
    refine sx_aload_n dX6_meet_24 rfl ?_
    refine sx_getS (k := 0) (t := 183) cl_6 fl_X6_11 dX6_meet_25 s_182 (by decide) rfl (by decide) ?_
    refine sx_aload_n dX6_meet_28 rfl ?_
    refine sx_getI (k := 1) cl_6 fl_X6_61 dX6_meet_29 s_182 (by decide) rfl (by decide) ?_
    have r5 : (0 : Int) ≤ h4 182 1 ∧ h4 182 1 ≤ 364 := Ih4.1.1 182 1
    refine sx_iload_n dX6_meet_32 rfl ?_
    refine sy_iastore dX6_meet_33 s_183 (by decide) (by decide) ⟨by omega, by omega⟩ (fun h6 eh6 => ?_)
    have Ih6 := Ih4.up eh6 (show (0 : Int) ≤ _ ∧ _ ≤ (1023 : Int) from ⟨by omega, by omega⟩) rfl rfl
    have th6_182_1 := eh6.2 (182) 1 (by omega)
    refine sx_aload_n dX6_meet_34 rfl ?_
    refine sx_dupr dX6_meet_35 ?_
    refine sx_getI (k := 1) cl_6 fl_X6_61 dX6_meet_36 s_182 (by decide) rfl (by decide) ?_
    have r7 : (0 : Int) ≤ h6 182 1 ∧ h6 182 1 ≤ 364 := Ih6.1.1 182 1
    refine sx_iconst dX6_meet_39 ⟨by decide, by decide⟩ ?_
    refine sx_iadd dX6_meet_40 ?_
    refine sy_topw (by omega) ?_
    refine sy_putI (k := 1) cl_6 fl_X6_61 dX6_meet_41 s_182 (by decide) rfl (by decide) rfl rfl (fun h8 eh8 => ?_)
    have Ih8 := Ih6.up eh8 (show (0 : Int) ≤ _ ∧ _ ≤ (364 : Int) from ⟨by omega, by omega⟩) rfl rfl
    have th8_182_1 := eh8.1
    refine sx_ret dX6_meet_44 ?_
    exact ⟨rfl, Ih8⟩
set_option maxRecDepth 20000 in
set_option maxHeartbeats 4000000 in
theorem c_X6_distance {G : sw_G} (d : Nat) {h0 : sw_H} (hJ : cJ h0) (n t : Int) (hn : n ≤ 3) (ht : 0 ≤ t ∧ t ≤ 1023) : sw_E G NH SH (d + 1) mX6_distance 0 [some (sw_r 182), some (sw_i n), some (sw_i t), none, none, none] [] h0 (sw_Qi (fun z h' => h0 = h' ∧ 0 ≤ z ∧ z ≤ 364)) := by
  have hI : cK pr0 h0 h0 := cK.refl hJ
  refine sx_iload_n dX6_distance_0 rfl ?_
  refine sx_callSi lk_X6_52 dX6_distance_1 (vs := [_]) rfl rfl (Nat.le_of_ble_eq_true rfl) (Nat.le_of_ble_eq_true rfl) rfl (c_X6_firstRow _ hI.1 _ (by omega)) (fun x2 h1 ph1 => ?_)
  obtain ⟨rfl, s_x2⟩ := ph1
  refine sx_istore_n dX6_distance_4 (by decide) ?_
  refine sx_iload_n dX6_distance_5 rfl ?_
  refine sx_istore dX6_distance_6 (by decide) ?_
  refine sx_iconst dX6_distance_8 ⟨by decide, by decide⟩ ?_
  refine sx_istore dX6_distance_9 (by decide) ?_
  refine sx_loop2 (fun (h : sw_H) (q : Int) (l : Int) => (h0 = h) ∧ (0 ≤ q) ∧ (q ≤ 1023) ∧ (0 ≤ l) ∧ (l ≤ 364)) (fun (h : sw_H) (q : Int) (l : Int) => (364 - l).toNat) (fun (h : sw_H) (q : Int) (l : Int) => sw_E G NH SH (d + 1) mX6_distance 11 [some (sw_r 182), some (sw_i n), some (sw_i t), some (sw_i x2), some (sw_i q), some (sw_i l)] [] h (sw_Qi (fun z h' => h0 = h' ∧ 0 ≤ z ∧ z ≤ 364))) ?_ _ _ _ ?_
  · rintro h3 q_4 l_5 ⟨rfl, j6, j7, j8, j9⟩ ihh3
    try dsimp only at ihh3
    refine sx_iload dX6_distance_11 rfl ?_
    refine sx_iload_n dX6_distance_13 rfl ?_
    refine sx_icmp_eq (tgt := 40) dX6_distance_14 (by decide) (fun c10 => ?_) (fun c10 => ?_)
    ·
      refine sx_iload dX6_distance_40 rfl ?_
      refine sx_ireturn dX6_distance_42 ?_
      exact ⟨_, rfl, ⟨rfl, by omega, by omega⟩⟩
    ·
      refine sx_iload dX6_distance_17 rfl ?_
      refine sx_sipush dX6_distance_19 ⟨by decide, by decide, by decide⟩ ?_
      refine sx_icmp_ge (tgt := 40) dX6_distance_22 (by decide) (fun c11 => ?_) (fun c11 => ?_)
      ·
        refine sx_iload dX6_distance_40 rfl ?_
        refine sx_ireturn dX6_distance_42 ?_
        exact ⟨_, rfl, ⟨rfl, by omega, by omega⟩⟩
      ·
        refine sx_aload_n dX6_distance_25 rfl ?_
        refine sx_getS (k := 3) (t := 185) cl_6 fl_X6_18 dX6_distance_26 s_182 (by decide) rfl (by decide) ?_
        refine sx_iload dX6_distance_29 rfl ?_
        refine sy_iaF (F := fun z => (0 : Int) ≤ z ∧ z ≤ 1023) dX6_distance_31 s_185 (by decide) (by decide) ⟨by omega, by omega⟩ (hI.1.1 185 _) (fun r12 => ?_)
        refine sy_top (fun v13 ev13 => ?_)
        refine sx_istore dX6_distance_32 (by decide) ?_
        refine sx_iinc dX6_distance_34 (by decide) rfl ?_
        rw [sw_w_id (by omega) (by omega)]
        refine sx_goto (tgt := 11) dX6_distance_37 (by decide) ?_
        exact ihh3 _ _ _ ⟨rfl, by omega, by omega, by omega, by omega⟩ (by exact sy_dec (by omega) (by omega))
  · exact ⟨rfl, by omega, by omega, by omega, by omega⟩
set_option maxRecDepth 20000 in
set_option maxHeartbeats 4000000 in
theorem c_X6_explore {G : sw_G} (d : Nat) {h0 : sw_H} (hJ : cJ h0) (n t : Int) (hn : n ≤ 3) : sw_E G NH SH (d + 3) mX6_explore 0 [some (sw_r 182), some (sw_i n), some (sw_i t), none, none, none, none] [] h0 (sw_Qz (fun z h' => cK prI h0 h' ∧ (z = 1 → 0 ≤ t ∧ t ≤ 1023))) := by
  have hI : cK prI h0 h0 := cK.refl hJ
  refine sx_aload_n dX6_explore_0 rfl ?_
  refine sx_getS (k := 2) (t := 184) cl_6 fl_X6_15 dX6_explore_1 s_182 (by decide) rfl (by decide) ?_
  refine sx_iconst dX6_explore_4 ⟨by decide, by decide⟩ ?_
  refine sx_callSv lk_X6_55 dX6_explore_5 (vs := [_, _]) rfl rfl (Nat.le_of_ble_eq_true rfl) (Nat.le_of_ble_eq_true rfl) rfl (c_J7_fill_53178_184 _ hI.1 _) (fun h1 ph1 => ?_)
  have Kh1 := ph1
  have Ih1 := hI.tr Kh1 sb_prI_prI
  refine sx_aload_n dX6_explore_8 rfl ?_
  refine sx_iconst dX6_explore_9 ⟨by decide, by decide⟩ ?_
  refine sy_putI (k := 1) cl_6 fl_X6_61 dX6_explore_10 s_182 (by decide) rfl (by decide) rfl rfl (fun h3 eh3 => ?_)
  have Ih3 := Ih1.up eh3 (show (0 : Int) ≤ _ ∧ _ ≤ (364 : Int) from ⟨by omega, by omega⟩) rfl rfl
  refine sx_aload_n dX6_explore_13 rfl ?_
  refine sx_iload_n dX6_explore_14 rfl ?_
  refine sx_callSi lk_X6_52 dX6_explore_15 (vs := [_]) rfl rfl (Nat.le_of_ble_eq_true rfl) (Nat.le_of_ble_eq_true rfl) rfl (c_X6_firstRow _ Ih3.1 _ (by omega)) (fun x5 h4 ph4 => ?_)
  obtain ⟨rfl, s_x5⟩ := ph4
  refine sx_iconst dX6_explore_18 ⟨by decide, by decide⟩ ?_
  refine sx_iconst dX6_explore_19 ⟨by decide, by decide⟩ ?_
  refine sx_callVv lk_X6_64 cl_6 s_182 (by decide) dX6_explore_20 (vs := [_, _, _]) rfl rfl (Nat.le_of_ble_eq_true rfl) (Nat.le_of_ble_eq_true rfl) rfl (c_X6_meet _ Ih3.1 _ _ _ (by omega) (by omega)) (fun h6 ph6 => ?_)
  have Kh6 := ph6
  have Ih6 := Ih3.tr Kh6 sb_prI_prI
  refine sx_iconst dX6_explore_23 ⟨by decide, by decide⟩ ?_
  refine sx_istore_n dX6_explore_24 (by decide) ?_
  refine sx_loop1 (fun (h : sw_H) (i : Int) => (cK prI h0 h) ∧ (0 ≤ i)) (fun (h : sw_H) (i : Int) => (364 - i).toNat) (fun (h : sw_H) (i : Int) => sw_E G NH SH (d + 3) mX6_explore 25 [some (sw_r 182), some (sw_i n), some (sw_i t), some (sw_i i), none, none, none] [] h (sw_Qz (fun z h' => cK prI h0 h' ∧ (z = 1 → 0 ≤ t ∧ t ≤ 1023)))) ?_ _ _ ?_
  · rintro h8 i_9 ⟨Ih8, j10⟩ ihh8
    try dsimp only at ihh8
    refine sx_iload_n dX6_explore_25 rfl ?_
    refine sx_aload_n dX6_explore_26 rfl ?_
    refine sx_getI (k := 1) cl_6 fl_X6_61 dX6_explore_27 s_182 (by decide) rfl (by decide) ?_
    have r11 : (0 : Int) ≤ h8 182 1 ∧ h8 182 1 ≤ 364 := Ih8.1.1 182 1
    refine sx_icmp_ge (tgt := 107) dX6_explore_30 (by decide) (fun c12 => ?_) (fun c12 => ?_)
    ·
      refine sx_iconst dX6_explore_107 ⟨by decide, by decide⟩ ?_
      refine sx_ireturn dX6_explore_108 ?_
      exact ⟨_, rfl, by omega, ⟨Ih8, fun q => by omega⟩⟩
    ·
      refine sx_aload_n dX6_explore_33 rfl ?_
      refine sx_getS (k := 0) (t := 183) cl_6 fl_X6_11 dX6_explore_34 s_182 (by decide) rfl (by decide) ?_
      refine sx_iload_n dX6_explore_37 rfl ?_
      refine sy_iaF (F := fun z => (0 : Int) ≤ z ∧ z ≤ 1023) dX6_explore_38 s_183 (by decide) (by decide) ⟨by omega, by omega⟩ (Ih8.1.1 183 _) (fun r13 => ?_)
      refine sy_top (fun v14 ev14 => ?_)
      refine sx_istore dX6_explore_39 (by decide) ?_
      refine sx_iload dX6_explore_41 rfl ?_
      refine sx_iload_n dX6_explore_43 rfl ?_
      refine sx_icmp_ne (tgt := 49) dX6_explore_44 (by decide) (fun c15 => ?_) (fun c15 => ?_)
      ·
        refine sx_iconst dX6_explore_49 ⟨by decide, by decide⟩ ?_
        refine sx_istore dX6_explore_50 (by decide) ?_
        refine sx_loop1 (fun (h : sw_H) (j : Int) => (cK prI h0 h) ∧ (0 ≤ j)) (fun (h : sw_H) (j : Int) => (7 - j).toNat) (fun (h : sw_H) (j : Int) => sw_E G NH SH (d + 3) mX6_explore 52 [some (sw_r 182), some (sw_i n), some (sw_i t), some (sw_i i_9), some (sw_i v14), some (sw_i j), none] [] h (sw_Qz (fun z h' => cK prI h0 h' ∧ (z = 1 → 0 ≤ t ∧ t ≤ 1023)))) ?_ _ _ ?_
        · rintro h16 j_17 ⟨Ih16, j18⟩ ihh16
          try dsimp only at ihh16
          refine sx_iload dX6_explore_52 rfl ?_
          refine sx_bipush dX6_explore_54 ⟨by decide, by decide, by decide⟩ ?_
          refine sx_icmp_ge (tgt := 101) dX6_explore_56 (by decide) (fun c19 => ?_) (fun c19 => ?_)
          ·
            refine sx_iinc dX6_explore_101 (by decide) rfl ?_
            rw [sw_w_id (by omega) (by omega)]
            refine sx_goto (tgt := 25) dX6_explore_104 (by decide) ?_
            refine sx_kill 4 ?_
            refine sx_kill 5 ?_
            exact ihh8 _ _ ⟨Ih16, by omega⟩ (by exact sy_dec (by omega) (by omega))
          ·
            refine sx_iload dX6_explore_59 rfl ?_
            refine sx_iload dX6_explore_61 rfl ?_
            refine sx_callSi lk_X6_68 dX6_explore_63 (vs := [_, _]) rfl rfl (Nat.le_of_ble_eq_true rfl) (Nat.le_of_ble_eq_true rfl) rfl (c_X6_shuffle _ Ih16.1 _ _ (by omega) (by omega)) (fun x21 h20 ph20 => ?_)
            obtain ⟨rfl, s_x21⟩ := ph20
            refine sx_istore dX6_explore_66 (by decide) ?_
            refine sx_iload dX6_explore_68 rfl ?_
            refine sx_iconst dX6_explore_70 ⟨by decide, by decide⟩ ?_
            refine sx_icmp_eq (tgt := 95) dX6_explore_71 (by decide) (fun c22 => ?_) (fun c22 => ?_)
            ·
              refine sx_iinc dX6_explore_95 (by decide) rfl ?_
              rw [sw_w_id (by omega) (by omega)]
              refine sx_goto (tgt := 52) dX6_explore_98 (by decide) ?_
              refine sx_kill 6 ?_
              exact ihh16 _ _ ⟨Ih16, by omega⟩ (by exact sy_dec (by omega) (by omega))
            ·
              refine sx_aload_n dX6_explore_74 rfl ?_
              refine sx_getS (k := 2) (t := 184) cl_6 fl_X6_15 dX6_explore_75 s_182 (by decide) rfl (by decide) ?_
              refine sx_iload dX6_explore_78 rfl ?_
              refine sx_iaload dX6_explore_80 s_184 (by decide) (by decide) ⟨by omega, by omega⟩ ?_
              refine sx_iconst dX6_explore_81 ⟨by decide, by decide⟩ ?_
              refine sx_icmp_ne (tgt := 95) dX6_explore_82 (by decide) (fun c23 => ?_) (fun c23 => ?_)
              ·
                refine sx_iinc dX6_explore_95 (by decide) rfl ?_
                rw [sw_w_id (by omega) (by omega)]
                refine sx_goto (tgt := 52) dX6_explore_98 (by decide) ?_
                refine sx_kill 6 ?_
                exact ihh16 _ _ ⟨Ih16, by omega⟩ (by exact sy_dec (by omega) (by omega))
              ·
                refine sx_aload_n dX6_explore_85 rfl ?_
                refine sx_iload dX6_explore_86 rfl ?_
                refine sx_iload dX6_explore_88 rfl ?_
                refine sx_iload dX6_explore_90 rfl ?_
                refine sx_callVv lk_X6_64 cl_6 s_182 (by decide) dX6_explore_92 (vs := [_, _, _]) rfl rfl (Nat.le_of_ble_eq_true rfl) (Nat.le_of_ble_eq_true rfl) rfl (c_X6_meet _ Ih16.1 _ _ _ (by omega) (by omega)) (fun h24 ph24 => ?_)
                have Kh24 := ph24
                have Ih24 := Ih16.tr Kh24 sb_prI_prI
                refine sx_iinc dX6_explore_95 (by decide) rfl ?_
                rw [sw_w_id (by omega) (by omega)]
                refine sx_goto (tgt := 52) dX6_explore_98 (by decide) ?_
                refine sx_kill 6 ?_
                exact ihh16 _ _ ⟨Ih24, by omega⟩ (by exact sy_dec (by omega) (by omega))
        · exact ⟨Ih8, by omega⟩
      ·
        refine sx_iconst dX6_explore_47 ⟨by decide, by decide⟩ ?_
        refine sx_ireturn dX6_explore_48 ?_
        exact ⟨_, rfl, by omega, ⟨Ih8, fun q => by omega⟩⟩
  · exact ⟨Ih6, by omega⟩
set_option maxRecDepth 20000 in
set_option maxHeartbeats 4000000 in
theorem c_X6_findShortest {G : sw_G} (d : Nat) {h0 : sw_H} (hJ : cJ h0) (n t : Int) (hn : t = -1 ∨ (n ≤ 3 ∧ 0 ≤ t ∧ t ≤ 255)) : sw_E G NH SH (d + 4) mX6_findShortest 0 [some (sw_r 182), some (sw_i n), some (sw_i t), none, none] [] h0 (sw_Qi (fun z h' => cK prH h0 h')) := by
  have hI : cK prH h0 h0 := cK.refl hJ
  refine sx_aload_n dX6_findShortest_0 rfl ?_
  refine sx_iconst dX6_findShortest_1 ⟨by decide, by decide⟩ ?_
  refine sy_putI (k := 7) cl_6 fl_X6_40 dX6_findShortest_2 s_182 (by decide) rfl (by decide) rfl rfl (fun h1 eh1 => ?_)
  have Ih1 := hI.up eh1 (show (0 : Int) ≤ _ ∧ _ ≤ (364 : Int) from ⟨by omega, by omega⟩) rfl rfl
  have th1_182_7 := eh1.1
  refine sx_iload_n dX6_findShortest_5 rfl ?_
  refine sx_iconst dX6_findShortest_6 ⟨by decide, by decide⟩ ?_
  refine sx_icmp_eq (tgt := 19) dX6_findShortest_7 (by decide) (fun c2 => ?_) (fun c2 => ?_)
  ·
    refine sx_iconst dX6_findShortest_19 ⟨by decide, by decide⟩ ?_
    refine sx_ireturn dX6_findShortest_20 ?_
    exact ⟨_, rfl, Ih1⟩
  ·
    refine sx_aload_n dX6_findShortest_10 rfl ?_
    refine sx_iload_n dX6_findShortest_11 rfl ?_
    refine sx_iload_n dX6_findShortest_12 rfl ?_
    refine sx_callVz lk_X6_44 cl_6 s_182 (by decide) dX6_findShortest_13 (vs := [_, _]) rfl rfl (Nat.le_of_ble_eq_true rfl) (Nat.le_of_ble_eq_true rfl) rfl (c_X6_explore _ Ih1.1 _ _ (by omega)) (fun x4 h3 zx4 ph3 => ?_)
    obtain ⟨Kh3, s_h3⟩ := ph3
    have Ih3 := Ih1.tr Kh3 sb_prH_prI
    have th3_182_7 := Kh3.2 (182) 7 rfl
    refine sx_if_ne (tgt := 21) dX6_findShortest_16 (by decide) (fun c5 => ?_) (fun c5 => ?_)
    ·
      refine sx_aload_n dX6_findShortest_21 rfl ?_
      refine sx_aload_n dX6_findShortest_22 rfl ?_
      refine sx_iload_n dX6_findShortest_23 rfl ?_
      refine sx_iload_n dX6_findShortest_24 rfl ?_
      refine sx_callVi lk_X6_48 cl_6 s_182 (by decide) dX6_findShortest_25 (vs := [_, _]) rfl rfl (Nat.le_of_ble_eq_true rfl) (Nat.le_of_ble_eq_true rfl) rfl (c_X6_distance _ Ih3.1 _ _ (by omega) (by omega)) (fun x7 h6 ph6 => ?_)
      obtain ⟨rfl, s_x7⟩ := ph6
      refine sy_putI (k := 7) cl_6 fl_X6_40 dX6_findShortest_28 s_182 (by decide) rfl (by decide) rfl rfl (fun h8 eh8 => ?_)
      have Ih8 := Ih3.up eh8 (show (0 : Int) ≤ _ ∧ _ ≤ (364 : Int) from ⟨by omega, by omega⟩) rfl rfl
      have th8_182_7 := eh8.1
      refine sx_iload_n dX6_findShortest_31 rfl ?_
      refine sx_istore_n dX6_findShortest_32 (by decide) ?_
      refine sx_aload_n dX6_findShortest_33 rfl ?_
      refine sx_getI (k := 7) cl_6 fl_X6_40 dX6_findShortest_34 s_182 (by decide) rfl (by decide) ?_
      have r9 : (0 : Int) ≤ h8 182 7 ∧ h8 182 7 ≤ 364 := Ih8.1.1 182 7
      refine sx_iconst dX6_findShortest_37 ⟨by decide, by decide⟩ ?_
      refine sx_isub dX6_findShortest_38 ?_
      refine sy_topw (by omega) ?_
      refine sy_top (fun v10 ev10 => ?_)
      refine sx_istore dX6_findShortest_39 (by decide) ?_
      refine sx_loop2 (fun (h : sw_H) (q : Int) (i : Int) => (cK prH h0 h) ∧ (0 ≤ q) ∧ (q ≤ 1023) ∧ (i ≤ 363)) (fun (h : sw_H) (q : Int) (i : Int) => (i + 1).toNat) (fun (h : sw_H) (q : Int) (i : Int) => sw_E G NH SH (d + 4) mX6_findShortest 41 [some (sw_r 182), some (sw_i n), some (sw_i t), some (sw_i q), some (sw_i i)] [] h (sw_Qi (fun z h' => cK prH h0 h'))) ?_ _ _ _ ?_
      · rintro h11 q_12 i_13 ⟨Ih11, j14, j15, j16⟩ ihh11
        try dsimp only at ihh11
        refine sx_iload dX6_findShortest_41 rfl ?_
        refine sx_if_lt (tgt := 72) dX6_findShortest_43 (by decide) (fun c17 => ?_) (fun c17 => ?_)
        ·
          refine sx_aload_n dX6_findShortest_72 rfl ?_
          refine sx_getI (k := 7) cl_6 fl_X6_40 dX6_findShortest_73 s_182 (by decide) rfl (by decide) ?_
          have r18 : (0 : Int) ≤ h11 182 7 ∧ h11 182 7 ≤ 364 := Ih11.1.1 182 7
          refine sx_ireturn dX6_findShortest_76 ?_
          exact ⟨_, rfl, Ih11⟩
        ·
          refine sx_aload_n dX6_findShortest_46 rfl ?_
          refine sx_getS (k := 6) (t := 188) cl_6 fl_X6_27 dX6_findShortest_47 s_182 (by decide) rfl (by decide) ?_
          refine sx_iload dX6_findShortest_50 rfl ?_
          refine sx_aload_n dX6_findShortest_52 rfl ?_
          refine sx_getS (k := 2) (t := 184) cl_6 fl_X6_15 dX6_findShortest_53 s_182 (by decide) rfl (by decide) ?_
          refine sx_iload_n dX6_findShortest_56 rfl ?_
          refine sx_iaload dX6_findShortest_57 s_184 (by decide) (by decide) ⟨by omega, by omega⟩ ?_
          refine sy_iastore dX6_findShortest_58 s_188 (by decide) (by decide) ⟨by omega, by omega⟩ (fun h19 eh19 => ?_)
          have Ih19 := Ih11.up eh19 trivial rfl rfl
          have th19_182_7 := eh19.2 (182) 7 (by omega)
          refine sx_aload_n dX6_findShortest_59 rfl ?_
          refine sx_getS (k := 3) (t := 185) cl_6 fl_X6_18 dX6_findShortest_60 s_182 (by decide) rfl (by decide) ?_
          refine sx_iload_n dX6_findShortest_63 rfl ?_
          refine sy_iaF (F := fun z => (0 : Int) ≤ z ∧ z ≤ 1023) dX6_findShortest_64 s_185 (by decide) (by decide) ⟨by omega, by omega⟩ (Ih19.1.1 185 _) (fun r20 => ?_)
          refine sy_top (fun v21 ev21 => ?_)
          refine sx_istore_n dX6_findShortest_65 (by decide) ?_
          refine sx_iinc dX6_findShortest_66 (by decide) rfl ?_
          rw [sw_w_id (by omega) (by omega)]
          refine sx_goto (tgt := 41) dX6_findShortest_69 (by decide) ?_
          exact ihh11 _ _ _ ⟨Ih19, by omega, by omega, by omega⟩ (by exact sy_dec (by omega) (by omega))
      · exact ⟨Ih8, by omega, by omega, by omega⟩
    ·
      refine sx_iconst dX6_findShortest_19 ⟨by decide, by decide⟩ ?_
      refine sx_ireturn dX6_findShortest_20 ?_
      exact ⟨_, rfl, Ih3⟩
set_option maxRecDepth 20000 in
set_option maxHeartbeats 4000000 in
theorem c_X6_reckonCosts {G : sw_G} (d : Nat) {h0 : sw_H} (hJ : cJ h0) (t : Int) (ht : 0 ≤ t ∧ t ≤ 1023) : sw_E G NH SH (d + 2) mX6_reckonCosts 0 [some (sw_r 182), some (sw_i t), none, none, none, none, none, none] [] h0 (sw_Qv (fun h' => cK prI h0 h')) := by
  have hI : cK prI h0 h0 := cK.refl hJ
  refine sx_aload_n dX6_reckonCosts_0 rfl ?_
  refine sx_getS (k := 4) (t := 186) cl_6 fl_X6_21 dX6_reckonCosts_1 s_182 (by decide) rfl (by decide) ?_
  refine sx_ldc kc_X6_79 ⟨by decide, by decide⟩ dX6_reckonCosts_4 ?_
  refine sx_callSv lk_X6_55 dX6_reckonCosts_6 (vs := [_, _]) rfl rfl (Nat.le_of_ble_eq_true rfl) (Nat.le_of_ble_eq_true rfl) rfl (c_J7_fill_53178_186 _ hI.1 _) (fun h1 ph1 => ?_)
  have Kh1 := ph1
  have Ih1 := hI.tr Kh1 sb_prI_prI
  refine sx_aload_n dX6_reckonCosts_9 rfl ?_
  refine sx_getS (k := 4) (t := 186) cl_6 fl_X6_21 dX6_reckonCosts_10 s_182 (by decide) rfl (by decide) ?_
  refine sx_iload_n dX6_reckonCosts_13 rfl ?_
  refine sx_iconst dX6_reckonCosts_14 ⟨by decide, by decide⟩ ?_
  refine sy_iastore dX6_reckonCosts_15 s_186 (by decide) (by decide) ⟨by omega, by omega⟩ (fun h3 eh3 => ?_)
  have Ih3 := Ih1.up eh3 trivial rfl rfl
  refine sx_iconst dX6_reckonCosts_16 ⟨by decide, by decide⟩ ?_
  refine sx_istore_n dX6_reckonCosts_17 (by decide) ?_
  refine sx_iconst dX6_reckonCosts_18 ⟨by decide, by decide⟩ ?_
  refine sx_istore_n dX6_reckonCosts_19 (by decide) ?_
  refine sx_loop2 (fun (h : sw_H) (u : Int) (p : Int) => (cK prI h0 h) ∧ (0 ≤ p)) (fun (h : sw_H) (u : Int) (p : Int) => (364 - p).toNat) (fun (h : sw_H) (u : Int) (p : Int) => sw_E G NH SH (d + 2) mX6_reckonCosts 20 [some (sw_r 182), some (sw_i t), some (sw_i u), some (sw_i p), none, none, none, none] [] h (sw_Qv (fun h' => cK prI h0 h'))) ?_ _ _ _ ?_
  · rintro h4 u_5 p_6 ⟨Ih4, j7⟩ ihh4
    try dsimp only at ihh4
    refine sx_iload_n dX6_reckonCosts_20 rfl ?_
    refine sx_sipush dX6_reckonCosts_21 ⟨by decide, by decide, by decide⟩ ?_
    refine sx_icmp_ge (tgt := 147) dX6_reckonCosts_24 (by decide) (fun c8 => ?_) (fun c8 => ?_)
    ·
      refine sx_ret dX6_reckonCosts_147 ?_
      exact ⟨rfl, Ih4⟩
    ·
      refine sx_iload_n dX6_reckonCosts_27 rfl ?_
      refine sx_if_eq (tgt := 147) dX6_reckonCosts_28 (by decide) (fun c9 => ?_) (fun c9 => ?_)
      ·
        refine sx_ret dX6_reckonCosts_147 ?_
        exact ⟨rfl, Ih4⟩
      ·
        refine sx_iconst dX6_reckonCosts_31 ⟨by decide, by decide⟩ ?_
        refine sx_istore_n dX6_reckonCosts_32 (by decide) ?_
        refine sx_aload_n dX6_reckonCosts_33 rfl ?_
        refine sx_getI (k := 1) cl_6 fl_X6_61 dX6_reckonCosts_34 s_182 (by decide) rfl (by decide) ?_
        have r10 : (0 : Int) ≤ h4 182 1 ∧ h4 182 1 ≤ 364 := Ih4.1.1 182 1
        refine sx_iconst dX6_reckonCosts_37 ⟨by decide, by decide⟩ ?_
        refine sx_isub dX6_reckonCosts_38 ?_
        refine sy_topw (by omega) ?_
        refine sy_top (fun v11 ev11 => ?_)
        refine sx_istore dX6_reckonCosts_39 (by decide) ?_
        refine sx_loop2 (fun (h : sw_H) (u : Int) (i : Int) => (cK prI h0 h) ∧ (i ≤ 363)) (fun (h : sw_H) (u : Int) (i : Int) => (i + 1).toNat) (fun (h : sw_H) (u : Int) (i : Int) => sw_E G NH SH (d + 2) mX6_reckonCosts 41 [some (sw_r 182), some (sw_i t), some (sw_i u), some (sw_i p_6), some (sw_i i), none, none, none] [] h (sw_Qv (fun h' => cK prI h0 h'))) ?_ _ _ _ ?_
        · rintro h12 u_13 i_14 ⟨Ih12, j15⟩ ihh12
          try dsimp only at ihh12
          refine sx_iload dX6_reckonCosts_41 rfl ?_
          refine sx_if_lt (tgt := 141) dX6_reckonCosts_43 (by decide) (fun c16 => ?_) (fun c16 => ?_)
          ·
            refine sx_iinc dX6_reckonCosts_141 (by decide) rfl ?_
            rw [sw_w_id (by omega) (by omega)]
            refine sx_goto (tgt := 20) dX6_reckonCosts_144 (by decide) ?_
            refine sx_kill 4 ?_
            exact ihh4 _ _ _ ⟨Ih12, by omega⟩ (by exact sy_dec (by omega) (by omega))
          ·
            refine sx_aload_n dX6_reckonCosts_46 rfl ?_
            refine sx_getS (k := 0) (t := 183) cl_6 fl_X6_11 dX6_reckonCosts_47 s_182 (by decide) rfl (by decide) ?_
            refine sx_iload dX6_reckonCosts_50 rfl ?_
            refine sy_iaF (F := fun z => (0 : Int) ≤ z ∧ z ≤ 1023) dX6_reckonCosts_52 s_183 (by decide) (by decide) ⟨by omega, by omega⟩ (Ih12.1.1 183 _) (fun r17 => ?_)
            refine sy_top (fun v18 ev18 => ?_)
            refine sx_istore dX6_reckonCosts_53 (by decide) ?_
            refine sx_iconst dX6_reckonCosts_55 ⟨by decide, by decide⟩ ?_
            refine sx_istore dX6_reckonCosts_56 (by decide) ?_
            refine sx_loop2 (fun (h : sw_H) (u : Int) (j : Int) => (cK prI h0 h) ∧ (0 ≤ j)) (fun (h : sw_H) (u : Int) (j : Int) => (7 - j).toNat) (fun (h : sw_H) (u : Int) (j : Int) => sw_E G NH SH (d + 2) mX6_reckonCosts 58 [some (sw_r 182), some (sw_i t), some (sw_i u), some (sw_i p_6), some (sw_i i_14), some (sw_i v18), some (sw_i j), none] [] h (sw_Qv (fun h' => cK prI h0 h'))) ?_ _ _ _ ?_
            · rintro h19 u_20 j_21 ⟨Ih19, j22⟩ ihh19
              try dsimp only at ihh19
              refine sx_iload dX6_reckonCosts_58 rfl ?_
              refine sx_bipush dX6_reckonCosts_60 ⟨by decide, by decide, by decide⟩ ?_
              refine sx_icmp_ge (tgt := 135) dX6_reckonCosts_62 (by decide) (fun c23 => ?_) (fun c23 => ?_)
              ·
                refine sx_iinc dX6_reckonCosts_135 (by decide) rfl ?_
                rw [sw_w_id (by omega) (by omega)]
                refine sx_goto (tgt := 41) dX6_reckonCosts_138 (by decide) ?_
                refine sx_kill 5 ?_
                refine sx_kill 6 ?_
                exact ihh12 _ _ _ ⟨Ih19, by omega⟩ (by exact sy_dec (by omega) (by omega))
              ·
                refine sx_iload dX6_reckonCosts_65 rfl ?_
                refine sx_iload dX6_reckonCosts_67 rfl ?_
                refine sx_callSi lk_X6_68 dX6_reckonCosts_69 (vs := [_, _]) rfl rfl (Nat.le_of_ble_eq_true rfl) (Nat.le_of_ble_eq_true rfl) rfl (c_X6_shuffle _ Ih19.1 _ _ (by omega) (by omega)) (fun x25 h24 ph24 => ?_)
                obtain ⟨rfl, s_x25⟩ := ph24
                refine sx_istore dX6_reckonCosts_72 (by decide) ?_
                refine sx_iload dX6_reckonCosts_74 rfl ?_
                refine sx_iconst dX6_reckonCosts_76 ⟨by decide, by decide⟩ ?_
                refine sx_icmp_eq (tgt := 129) dX6_reckonCosts_77 (by decide) (fun c26 => ?_) (fun c26 => ?_)
                ·
                  refine sx_iinc dX6_reckonCosts_129 (by decide) rfl ?_
                  rw [sw_w_id (by omega) (by omega)]
                  refine sx_goto (tgt := 58) dX6_reckonCosts_132 (by decide) ?_
                  refine sx_kill 7 ?_
                  exact ihh19 _ _ _ ⟨Ih19, by omega⟩ (by exact sy_dec (by omega) (by omega))
                ·
                  refine sx_aload_n dX6_reckonCosts_80 rfl ?_
                  refine sx_getS (k := 4) (t := 186) cl_6 fl_X6_21 dX6_reckonCosts_81 s_182 (by decide) rfl (by decide) ?_
                  refine sx_iload dX6_reckonCosts_84 rfl ?_
                  refine sx_iaload dX6_reckonCosts_86 s_186 (by decide) (by decide) ⟨by omega, by omega⟩ ?_
                  refine sx_aload_n dX6_reckonCosts_87 rfl ?_
                  refine sx_getS (k := 5) (t := 187) cl_6 fl_X6_24 dX6_reckonCosts_88 s_182 (by decide) rfl (by decide) ?_
                  refine sx_iload dX6_reckonCosts_91 rfl ?_
                  refine sx_iaload dX6_reckonCosts_93 s_187 (by decide) (by decide) ⟨by omega, by omega⟩ ?_
                  refine sx_iadd dX6_reckonCosts_94 ?_
                  refine sx_aload_n dX6_reckonCosts_95 rfl ?_
                  refine sx_getS (k := 4) (t := 186) cl_6 fl_X6_21 dX6_reckonCosts_96 s_182 (by decide) rfl (by decide) ?_
                  refine sx_iload dX6_reckonCosts_99 rfl ?_
                  refine sx_iaload dX6_reckonCosts_101 s_186 (by decide) (by decide) ⟨by omega, by omega⟩ ?_
                  refine sx_icmp_ge (tgt := 129) dX6_reckonCosts_102 (by decide) (fun c27 => ?_) (fun c27 => ?_)
                  ·
                    refine sx_iinc dX6_reckonCosts_129 (by decide) rfl ?_
                    rw [sw_w_id (by omega) (by omega)]
                    refine sx_goto (tgt := 58) dX6_reckonCosts_132 (by decide) ?_
                    refine sx_kill 7 ?_
                    exact ihh19 _ _ _ ⟨Ih19, by omega⟩ (by exact sy_dec (by omega) (by omega))
                  ·
                    refine sx_aload_n dX6_reckonCosts_105 rfl ?_
                    refine sx_getS (k := 4) (t := 186) cl_6 fl_X6_21 dX6_reckonCosts_106 s_182 (by decide) rfl (by decide) ?_
                    refine sx_iload dX6_reckonCosts_109 rfl ?_
                    refine sx_aload_n dX6_reckonCosts_111 rfl ?_
                    refine sx_getS (k := 4) (t := 186) cl_6 fl_X6_21 dX6_reckonCosts_112 s_182 (by decide) rfl (by decide) ?_
                    refine sx_iload dX6_reckonCosts_115 rfl ?_
                    refine sx_iaload dX6_reckonCosts_117 s_186 (by decide) (by decide) ⟨by omega, by omega⟩ ?_
                    refine sx_aload_n dX6_reckonCosts_118 rfl ?_
                    refine sx_getS (k := 5) (t := 187) cl_6 fl_X6_24 dX6_reckonCosts_119 s_182 (by decide) rfl (by decide) ?_
                    refine sx_iload dX6_reckonCosts_122 rfl ?_
                    refine sx_iaload dX6_reckonCosts_124 s_187 (by decide) (by decide) ⟨by omega, by omega⟩ ?_
                    refine sx_iadd dX6_reckonCosts_125 ?_
                    refine sy_iastore dX6_reckonCosts_126 s_186 (by decide) (by decide) ⟨by omega, by omega⟩ (fun h28 eh28 => ?_)
                    have Ih28 := Ih19.up eh28 trivial rfl rfl
                    refine sx_iconst dX6_reckonCosts_127 ⟨by decide, by decide⟩ ?_
                    refine sx_istore_n dX6_reckonCosts_128 (by decide) ?_
                    refine sx_iinc dX6_reckonCosts_129 (by decide) rfl ?_
                    rw [sw_w_id (by omega) (by omega)]
                    refine sx_goto (tgt := 58) dX6_reckonCosts_132 (by decide) ?_
                    refine sx_kill 7 ?_
                    exact ihh19 _ _ _ ⟨Ih28, by omega⟩ (by exact sy_dec (by omega) (by omega))
            · exact ⟨Ih12, by omega⟩
        · exact ⟨Ih4, by omega⟩
  · exact ⟨Ih3, by omega⟩
set_option maxRecDepth 20000 in
set_option maxHeartbeats 4000000 in
theorem c_X6_walkCheaply {G : sw_G} (d : Nat) {h0 : sw_H} (hJ : cJ h0) (f t : Int) (hf : 0 ≤ f ∧ f ≤ 1023) : sw_E G NH SH (d + 2) mX6_walkCheaply 0 [some (sw_r 182), some (sw_i f), some (sw_i t), none, none, none, none] [] h0 (sw_Qv (fun h' => cK prH h0 h')) := by
  have hI : cK prH h0 h0 := cK.refl hJ
  refine sx_iload_n dX6_walkCheaply_0 rfl ?_
  refine sx_istore_n dX6_walkCheaply_1 (by decide) ?_
  refine sx_loop1 (fun (h : sw_H) (q : Int) => (cK prH h0 h) ∧ (0 ≤ q) ∧ (q ≤ 1023)) (fun (h : sw_H) (q : Int) => (364 - h 182 7).toNat) (fun (h : sw_H) (q : Int) => sw_E G NH SH (d + 2) mX6_walkCheaply 2 [some (sw_r 182), some (sw_i f), some (sw_i t), some (sw_i q), none, none, none] [] h (sw_Qv (fun h' => cK prH h0 h'))) ?_ _ _ ?_
  · rintro h1 q_2 ⟨Ih1, j3, j4⟩ ihh1
    try dsimp only at ihh1
    refine sx_iload_n dX6_walkCheaply_2 rfl ?_
    refine sx_iload_n dX6_walkCheaply_3 rfl ?_
    refine sx_icmp_eq (tgt := 121) dX6_walkCheaply_4 (by decide) (fun c5 => ?_) (fun c5 => ?_)
    ·
      refine sx_ret dX6_walkCheaply_121 ?_
      exact ⟨rfl, Ih1⟩
    ·
      refine sx_aload_n dX6_walkCheaply_7 rfl ?_
      refine sx_getI (k := 7) cl_6 fl_X6_40 dX6_walkCheaply_8 s_182 (by decide) rfl (by decide) ?_
      have r6 : (0 : Int) ≤ h1 182 7 ∧ h1 182 7 ≤ 364 := Ih1.1.1 182 7
      refine sx_sipush dX6_walkCheaply_11 ⟨by decide, by decide, by decide⟩ ?_
      refine sx_icmp_ge (tgt := 121) dX6_walkCheaply_14 (by decide) (fun c7 => ?_) (fun c7 => ?_)
      ·
        refine sx_ret dX6_walkCheaply_121 ?_
        exact ⟨rfl, Ih1⟩
      ·
        refine sx_iconst dX6_walkCheaply_17 ⟨by decide, by decide⟩ ?_
        refine sx_istore dX6_walkCheaply_18 (by decide) ?_
        refine sx_iconst dX6_walkCheaply_20 ⟨by decide, by decide⟩ ?_
        refine sx_istore dX6_walkCheaply_21 (by decide) ?_
        refine sx_loop2 (fun (h : sw_H) (o : Int) (t2 : Int) => (h1 = h) ∧ (-1 ≤ o) ∧ (o ≤ 1023) ∧ (0 ≤ t2) ∧ (t2 ≤ 7)) (fun (h : sw_H) (o : Int) (t2 : Int) => (2048 * (8 - t2) - o).toNat) (fun (h : sw_H) (o : Int) (t2 : Int) => sw_E G NH SH (d + 2) mX6_walkCheaply 23 [some (sw_r 182), some (sw_i f), some (sw_i t), some (sw_i q_2), some (sw_i o), some (sw_i t2), none] [] h (sw_Qv (fun h' => cK prH h0 h'))) ?_ _ _ _ ?_
        · rintro h8 o_9 t2_10 ⟨rfl, j11, j12, j13, j14⟩ ihh8
          try dsimp only at ihh8
          refine sx_iload dX6_walkCheaply_23 rfl ?_
          refine sx_bipush dX6_walkCheaply_25 ⟨by decide, by decide, by decide⟩ ?_
          refine sx_icmp_ge (tgt := 87) dX6_walkCheaply_27 (by decide) (fun c15 => ?_) (fun c15 => ?_)
          ·
            refine sx_iload dX6_walkCheaply_87 rfl ?_
            refine sx_iconst dX6_walkCheaply_89 ⟨by decide, by decide⟩ ?_
            refine sx_icmp_ne (tgt := 94) dX6_walkCheaply_90 (by decide) (fun c16 => ?_) (fun c16 => ?_)
            ·
              refine sx_aload_n dX6_walkCheaply_94 rfl ?_
              refine sx_getS (k := 6) (t := 188) cl_6 fl_X6_27 dX6_walkCheaply_95 s_182 (by decide) rfl (by decide) ?_
              refine sx_aload_n dX6_walkCheaply_98 rfl ?_
              refine sx_getI (k := 7) cl_6 fl_X6_40 dX6_walkCheaply_99 s_182 (by decide) rfl (by decide) ?_
              have r17 : (0 : Int) ≤ h1 182 7 ∧ h1 182 7 ≤ 364 := Ih1.1.1 182 7
              refine sx_iload dX6_walkCheaply_102 rfl ?_
              refine sy_iastore dX6_walkCheaply_104 s_188 (by decide) (by decide) ⟨by omega, by omega⟩ (fun h18 eh18 => ?_)
              have Ih18 := Ih1.up eh18 trivial rfl rfl
              have th18_182_7 := eh18.2 (182) 7 (by omega)
              refine sx_aload_n dX6_walkCheaply_105 rfl ?_
              refine sx_dupr dX6_walkCheaply_106 ?_
              refine sx_getI (k := 7) cl_6 fl_X6_40 dX6_walkCheaply_107 s_182 (by decide) rfl (by decide) ?_
              have r19 : (0 : Int) ≤ h18 182 7 ∧ h18 182 7 ≤ 364 := Ih18.1.1 182 7
              refine sx_iconst dX6_walkCheaply_110 ⟨by decide, by decide⟩ ?_
              refine sx_iadd dX6_walkCheaply_111 ?_
              refine sy_topw (by omega) ?_
              refine sy_putI (k := 7) cl_6 fl_X6_40 dX6_walkCheaply_112 s_182 (by decide) rfl (by decide) rfl rfl (fun h20 eh20 => ?_)
              have Ih20 := Ih18.up eh20 (show (0 : Int) ≤ _ ∧ _ ≤ (364 : Int) from ⟨by omega, by omega⟩) rfl rfl
              have th20_182_7 := eh20.1
              refine sx_iload dX6_walkCheaply_115 rfl ?_
              refine sx_istore_n dX6_walkCheaply_117 (by decide) ?_
              refine sx_goto (tgt := 2) dX6_walkCheaply_118 (by decide) ?_
              refine sx_kill 4 ?_
              refine sx_kill 5 ?_
              exact ihh1 _ _ ⟨Ih20, by omega, by omega⟩ (by exact sy_dec (by omega) (by omega))
            ·
              refine sx_ret dX6_walkCheaply_93 ?_
              exact ⟨rfl, Ih1⟩
          ·
            refine sx_iload dX6_walkCheaply_30 rfl ?_
            refine sx_iconst dX6_walkCheaply_32 ⟨by decide, by decide⟩ ?_
            refine sx_icmp_ne (tgt := 87) dX6_walkCheaply_33 (by decide) (fun c21 => ?_) (fun c21 => ?_)
            ·
              refine sx_iload dX6_walkCheaply_87 rfl ?_
              refine sx_iconst dX6_walkCheaply_89 ⟨by decide, by decide⟩ ?_
              refine sx_icmp_ne (tgt := 94) dX6_walkCheaply_90 (by decide) (fun c22 => ?_) (fun c22 => ?_)
              ·
                refine sx_aload_n dX6_walkCheaply_94 rfl ?_
                refine sx_getS (k := 6) (t := 188) cl_6 fl_X6_27 dX6_walkCheaply_95 s_182 (by decide) rfl (by decide) ?_
                refine sx_aload_n dX6_walkCheaply_98 rfl ?_
                refine sx_getI (k := 7) cl_6 fl_X6_40 dX6_walkCheaply_99 s_182 (by decide) rfl (by decide) ?_
                have r23 : (0 : Int) ≤ h1 182 7 ∧ h1 182 7 ≤ 364 := Ih1.1.1 182 7
                refine sx_iload dX6_walkCheaply_102 rfl ?_
                refine sy_iastore dX6_walkCheaply_104 s_188 (by decide) (by decide) ⟨by omega, by omega⟩ (fun h24 eh24 => ?_)
                have Ih24 := Ih1.up eh24 trivial rfl rfl
                have th24_182_7 := eh24.2 (182) 7 (by omega)
                refine sx_aload_n dX6_walkCheaply_105 rfl ?_
                refine sx_dupr dX6_walkCheaply_106 ?_
                refine sx_getI (k := 7) cl_6 fl_X6_40 dX6_walkCheaply_107 s_182 (by decide) rfl (by decide) ?_
                have r25 : (0 : Int) ≤ h24 182 7 ∧ h24 182 7 ≤ 364 := Ih24.1.1 182 7
                refine sx_iconst dX6_walkCheaply_110 ⟨by decide, by decide⟩ ?_
                refine sx_iadd dX6_walkCheaply_111 ?_
                refine sy_topw (by omega) ?_
                refine sy_putI (k := 7) cl_6 fl_X6_40 dX6_walkCheaply_112 s_182 (by decide) rfl (by decide) rfl rfl (fun h26 eh26 => ?_)
                have Ih26 := Ih24.up eh26 (show (0 : Int) ≤ _ ∧ _ ≤ (364 : Int) from ⟨by omega, by omega⟩) rfl rfl
                have th26_182_7 := eh26.1
                refine sx_iload dX6_walkCheaply_115 rfl ?_
                refine sx_istore_n dX6_walkCheaply_117 (by decide) ?_
                refine sx_goto (tgt := 2) dX6_walkCheaply_118 (by decide) ?_
                refine sx_kill 4 ?_
                refine sx_kill 5 ?_
                exact ihh1 _ _ ⟨Ih26, by omega, by omega⟩ (by exact sy_dec (by omega) (by omega))
              ·
                refine sx_ret dX6_walkCheaply_93 ?_
                exact ⟨rfl, Ih1⟩
            ·
              refine sx_iload_n dX6_walkCheaply_36 rfl ?_
              refine sx_iload dX6_walkCheaply_37 rfl ?_
              refine sx_callSi lk_X6_68 dX6_walkCheaply_39 (vs := [_, _]) rfl rfl (Nat.le_of_ble_eq_true rfl) (Nat.le_of_ble_eq_true rfl) rfl (c_X6_shuffle _ Ih1.1 _ _ (by omega) (by omega)) (fun x28 h27 ph27 => ?_)
              obtain ⟨rfl, s_x28⟩ := ph27
              refine sx_istore dX6_walkCheaply_42 (by decide) ?_
              refine sx_iload dX6_walkCheaply_44 rfl ?_
              refine sx_iconst dX6_walkCheaply_46 ⟨by decide, by decide⟩ ?_
              refine sx_icmp_eq (tgt := 81) dX6_walkCheaply_47 (by decide) (fun c29 => ?_) (fun c29 => ?_)
              ·
                refine sx_iinc dX6_walkCheaply_81 (by decide) rfl ?_
                rw [sw_w_id (by omega) (by omega)]
                refine sx_goto (tgt := 23) dX6_walkCheaply_84 (by decide) ?_
                refine sx_kill 6 ?_
                exact ihh8 _ _ _ ⟨rfl, by omega, by omega, by omega, by omega⟩ (by exact sy_dec (by omega) (by omega))
              ·
                refine sx_aload_n dX6_walkCheaply_50 rfl ?_
                refine sx_getS (k := 4) (t := 186) cl_6 fl_X6_21 dX6_walkCheaply_51 s_182 (by decide) rfl (by decide) ?_
                refine sx_iload dX6_walkCheaply_54 rfl ?_
                refine sx_iaload dX6_walkCheaply_56 s_186 (by decide) (by decide) ⟨by omega, by omega⟩ ?_
                refine sx_aload_n dX6_walkCheaply_57 rfl ?_
                refine sx_getS (k := 5) (t := 187) cl_6 fl_X6_24 dX6_walkCheaply_58 s_182 (by decide) rfl (by decide) ?_
                refine sx_iload dX6_walkCheaply_61 rfl ?_
                refine sx_iaload dX6_walkCheaply_63 s_187 (by decide) (by decide) ⟨by omega, by omega⟩ ?_
                refine sx_iadd dX6_walkCheaply_64 ?_
                refine sx_aload_n dX6_walkCheaply_65 rfl ?_
                refine sx_getS (k := 4) (t := 186) cl_6 fl_X6_21 dX6_walkCheaply_66 s_182 (by decide) rfl (by decide) ?_
                refine sx_iload_n dX6_walkCheaply_69 rfl ?_
                refine sx_iaload dX6_walkCheaply_70 s_186 (by decide) (by decide) ⟨by omega, by omega⟩ ?_
                refine sx_icmp_ne (tgt := 81) dX6_walkCheaply_71 (by decide) (fun c30 => ?_) (fun c30 => ?_)
                ·
                  refine sx_iinc dX6_walkCheaply_81 (by decide) rfl ?_
                  rw [sw_w_id (by omega) (by omega)]
                  refine sx_goto (tgt := 23) dX6_walkCheaply_84 (by decide) ?_
                  refine sx_kill 6 ?_
                  exact ihh8 _ _ _ ⟨rfl, by omega, by omega, by omega, by omega⟩ (by exact sy_dec (by omega) (by omega))
                ·
                  refine sx_iload dX6_walkCheaply_74 rfl ?_
                  refine sx_istore dX6_walkCheaply_76 (by decide) ?_
                  refine sx_goto (tgt := 84) dX6_walkCheaply_78 (by decide) ?_
                  refine sx_goto (tgt := 23) dX6_walkCheaply_84 (by decide) ?_
                  refine sx_kill 6 ?_
                  exact ihh8 _ _ _ ⟨rfl, by omega, by omega, by omega, by omega⟩ (by exact sy_dec (by omega) (by omega))
        · exact ⟨rfl, by omega, by omega, by omega, by omega⟩
  · exact ⟨hI, by omega, by omega⟩
set_option maxRecDepth 20000 in
set_option maxHeartbeats 4000000 in
theorem c_X6_findCheapest_1 {G : sw_G} (d : Nat) {h0 : sw_H} (hJ : cJ h0) (n t : Int) (hn : t = -1 ∨ (n ≤ 3 ∧ 0 ≤ t ∧ t ≤ 255)) : sw_E G NH SH (d + 4) mX6_findCheapest 0 [some (sw_r 182), some (sw_i n), some (sw_i t), some (sw_r 12), none] [] h0 (sw_Qi (fun z h' => cK prH h0 h')) := by
  have hI : cK prH h0 h0 := cK.refl hJ
  refine sx_aload_n dX6_findCheapest_0 rfl ?_
  refine sx_iconst dX6_findCheapest_1 ⟨by decide, by decide⟩ ?_
  refine sy_putI (k := 7) cl_6 fl_X6_40 dX6_findCheapest_2 s_182 (by decide) rfl (by decide) rfl rfl (fun h1 eh1 => ?_)
  have Ih1 := hI.up eh1 (show (0 : Int) ≤ _ ∧ _ ≤ (364 : Int) from ⟨by omega, by omega⟩) rfl rfl
  refine sx_iload_n dX6_findCheapest_5 rfl ?_
  refine sx_iconst dX6_findCheapest_6 ⟨by decide, by decide⟩ ?_
  refine sx_icmp_ne (tgt := 12) dX6_findCheapest_7 (by decide) (fun c2 => ?_) (fun c2 => ?_)
  ·
    refine sx_aload_n dX6_findCheapest_12 rfl ?_
    refine sx_iload_n dX6_findCheapest_13 rfl ?_
    refine sx_iconst dX6_findCheapest_14 ⟨by decide, by decide⟩ ?_
    refine sx_callVz lk_X6_44 cl_6 s_182 (by decide) dX6_findCheapest_15 (vs := [_, _]) rfl rfl (Nat.le_of_ble_eq_true rfl) (Nat.le_of_ble_eq_true rfl) rfl (c_X6_explore _ Ih1.1 _ _ (by omega)) (fun x4 h3 zx4 ph3 => ?_)
    obtain ⟨Kh3, s_h3⟩ := ph3
    have Ih3 := Ih1.tr Kh3 sb_prH_prI
    refine sx_pop dX6_findCheapest_18 ?_
    refine sx_aload_n dX6_findCheapest_19 rfl ?_
    refine sx_getS (k := 2) (t := 184) cl_6 fl_X6_15 dX6_findCheapest_20 s_182 (by decide) rfl (by decide) ?_
    refine sx_iload_n dX6_findCheapest_23 rfl ?_
    refine sx_iaload dX6_findCheapest_24 s_184 (by decide) (by decide) ⟨by omega, by omega⟩ ?_
    refine sx_iconst dX6_findCheapest_25 ⟨by decide, by decide⟩ ?_
    refine sx_icmp_ne (tgt := 31) dX6_findCheapest_26 (by decide) (fun c5 => ?_) (fun c5 => ?_)
    ·
      refine sx_iconst dX6_findCheapest_31 ⟨by decide, by decide⟩ ?_
      refine sx_istore dX6_findCheapest_32 (by decide) ?_
      refine sx_loop1 (fun (h : sw_H) (i : Int) => (cK prH h0 h) ∧ (0 ≤ i)) (fun (h : sw_H) (i : Int) => (7 - i).toNat) (fun (h : sw_H) (i : Int) => sw_E G NH SH (d + 4) mX6_findCheapest 34 [some (sw_r 182), some (sw_i n), some (sw_i t), some (sw_r 12), some (sw_i i)] [] h (sw_Qi (fun z h' => cK prH h0 h'))) ?_ _ _ ?_
      · rintro h6 i_7 ⟨Ih6, j8⟩ ihh6
        try dsimp only at ihh6
        refine sx_iload dX6_findCheapest_34 rfl ?_
        refine sx_bipush dX6_findCheapest_36 ⟨by decide, by decide, by decide⟩ ?_
        refine sx_icmp_ge (tgt := 64) dX6_findCheapest_38 (by decide) (fun c9 => ?_) (fun c9 => ?_)
        ·
          refine sx_aload_n dX6_findCheapest_64 rfl ?_
          refine sx_iload_n dX6_findCheapest_65 rfl ?_
          refine sx_callVv lk_X6_71 cl_6 s_182 (by decide) dX6_findCheapest_66 (vs := [_]) rfl rfl (Nat.le_of_ble_eq_true rfl) (Nat.le_of_ble_eq_true rfl) rfl (c_X6_reckonCosts _ Ih6.1 _ (by omega)) (fun h10 ph10 => ?_)
          have Kh10 := ph10
          have Ih10 := Ih6.tr Kh10 sb_prH_prI
          refine sx_aload_n dX6_findCheapest_69 rfl ?_
          refine sx_iload_n dX6_findCheapest_70 rfl ?_
          refine sx_callSi lk_X6_52 dX6_findCheapest_71 (vs := [_]) rfl rfl (Nat.le_of_ble_eq_true rfl) (Nat.le_of_ble_eq_true rfl) rfl (c_X6_firstRow _ Ih10.1 _ (by omega)) (fun x13 h12 ph12 => ?_)
          obtain ⟨rfl, s_x13⟩ := ph12
          refine sx_iload_n dX6_findCheapest_74 rfl ?_
          refine sx_callVv lk_X6_75 cl_6 s_182 (by decide) dX6_findCheapest_75 (vs := [_, _]) rfl rfl (Nat.le_of_ble_eq_true rfl) (Nat.le_of_ble_eq_true rfl) rfl (c_X6_walkCheaply _ Ih10.1 _ _ (by omega)) (fun h14 ph14 => ?_)
          have Kh14 := ph14
          have Ih14 := Ih10.tr Kh14 sb_prH_prH
          refine sx_aload_n dX6_findCheapest_78 rfl ?_
          refine sx_getS (k := 4) (t := 186) cl_6 fl_X6_21 dX6_findCheapest_79 s_182 (by decide) rfl (by decide) ?_
          refine sx_iload_n dX6_findCheapest_82 rfl ?_
          refine sx_callSi lk_X6_52 dX6_findCheapest_83 (vs := [_]) rfl rfl (Nat.le_of_ble_eq_true rfl) (Nat.le_of_ble_eq_true rfl) rfl (c_X6_firstRow _ Ih14.1 _ (by omega)) (fun x17 h16 ph16 => ?_)
          obtain ⟨rfl, s_x17⟩ := ph16
          refine sx_iaload dX6_findCheapest_86 s_186 (by decide) (by decide) ⟨by omega, by omega⟩ ?_
          refine sx_sipush dX6_findCheapest_87 ⟨by decide, by decide, by decide⟩ ?_
          refine sx_idiv dX6_findCheapest_90 (by omega) ?_
          refine sx_ireturn dX6_findCheapest_91 ?_
          exact ⟨_, rfl, Ih14⟩
        ·
          refine sx_aload_n dX6_findCheapest_41 rfl ?_
          refine sx_getS (k := 5) (t := 187) cl_6 fl_X6_24 dX6_findCheapest_42 s_182 (by decide) rfl (by decide) ?_
          refine sx_iload dX6_findCheapest_45 rfl ?_
          refine sx_aload_n dX6_findCheapest_47 rfl ?_
          refine sx_iload dX6_findCheapest_48 rfl ?_
          refine sx_iaload dX6_findCheapest_50 s_12 (by decide) (by decide) ⟨by omega, by omega⟩ ?_
          refine sx_sipush dX6_findCheapest_51 ⟨by decide, by decide, by decide⟩ ?_
          refine sx_imul dX6_findCheapest_54 ?_
          refine sx_iconst dX6_findCheapest_55 ⟨by decide, by decide⟩ ?_
          refine sx_iadd dX6_findCheapest_56 ?_
          refine sy_iastore dX6_findCheapest_57 s_187 (by decide) (by decide) ⟨by omega, by omega⟩ (fun h18 eh18 => ?_)
          have Ih18 := Ih6.up eh18 trivial rfl rfl
          refine sx_iinc dX6_findCheapest_58 (by decide) rfl ?_
          rw [sw_w_id (by omega) (by omega)]
          refine sx_goto (tgt := 34) dX6_findCheapest_61 (by decide) ?_
          exact ihh6 _ _ ⟨Ih18, by omega⟩ (by exact sy_dec (by omega) (by omega))
      · exact ⟨Ih3, by omega⟩
    ·
      refine sx_iconst dX6_findCheapest_29 ⟨by decide, by decide⟩ ?_
      refine sx_ireturn dX6_findCheapest_30 ?_
      exact ⟨_, rfl, Ih3⟩
  ·
    refine sx_iconst dX6_findCheapest_10 ⟨by decide, by decide⟩ ?_
    refine sx_ireturn dX6_findCheapest_11 ?_
    exact ⟨_, rfl, Ih1⟩
set_option maxRecDepth 20000 in
set_option maxHeartbeats 4000000 in
theorem c_X6_findCheapest_13 {G : sw_G} (d : Nat) {h0 : sw_H} (hJ : cJ h0) (n t : Int) (hn : t = -1 ∨ (n ≤ 3 ∧ 0 ≤ t ∧ t ≤ 255)) : sw_E G NH SH (d + 4) mX6_findCheapest 0 [some (sw_r 182), some (sw_i n), some (sw_i t), some (sw_r 24), none] [] h0 (sw_Qi (fun z h' => cK prH h0 h')) := by
  have hI : cK prH h0 h0 := cK.refl hJ
  refine sx_aload_n dX6_findCheapest_0 rfl ?_
  refine sx_iconst dX6_findCheapest_1 ⟨by decide, by decide⟩ ?_
  refine sy_putI (k := 7) cl_6 fl_X6_40 dX6_findCheapest_2 s_182 (by decide) rfl (by decide) rfl rfl (fun h1 eh1 => ?_)
  have Ih1 := hI.up eh1 (show (0 : Int) ≤ _ ∧ _ ≤ (364 : Int) from ⟨by omega, by omega⟩) rfl rfl
  refine sx_iload_n dX6_findCheapest_5 rfl ?_
  refine sx_iconst dX6_findCheapest_6 ⟨by decide, by decide⟩ ?_
  refine sx_icmp_ne (tgt := 12) dX6_findCheapest_7 (by decide) (fun c2 => ?_) (fun c2 => ?_)
  ·
    refine sx_aload_n dX6_findCheapest_12 rfl ?_
    refine sx_iload_n dX6_findCheapest_13 rfl ?_
    refine sx_iconst dX6_findCheapest_14 ⟨by decide, by decide⟩ ?_
    refine sx_callVz lk_X6_44 cl_6 s_182 (by decide) dX6_findCheapest_15 (vs := [_, _]) rfl rfl (Nat.le_of_ble_eq_true rfl) (Nat.le_of_ble_eq_true rfl) rfl (c_X6_explore _ Ih1.1 _ _ (by omega)) (fun x4 h3 zx4 ph3 => ?_)
    obtain ⟨Kh3, s_h3⟩ := ph3
    have Ih3 := Ih1.tr Kh3 sb_prH_prI
    refine sx_pop dX6_findCheapest_18 ?_
    refine sx_aload_n dX6_findCheapest_19 rfl ?_
    refine sx_getS (k := 2) (t := 184) cl_6 fl_X6_15 dX6_findCheapest_20 s_182 (by decide) rfl (by decide) ?_
    refine sx_iload_n dX6_findCheapest_23 rfl ?_
    refine sx_iaload dX6_findCheapest_24 s_184 (by decide) (by decide) ⟨by omega, by omega⟩ ?_
    refine sx_iconst dX6_findCheapest_25 ⟨by decide, by decide⟩ ?_
    refine sx_icmp_ne (tgt := 31) dX6_findCheapest_26 (by decide) (fun c5 => ?_) (fun c5 => ?_)
    ·
      refine sx_iconst dX6_findCheapest_31 ⟨by decide, by decide⟩ ?_
      refine sx_istore dX6_findCheapest_32 (by decide) ?_
      refine sx_loop1 (fun (h : sw_H) (i : Int) => (cK prH h0 h) ∧ (0 ≤ i)) (fun (h : sw_H) (i : Int) => (7 - i).toNat) (fun (h : sw_H) (i : Int) => sw_E G NH SH (d + 4) mX6_findCheapest 34 [some (sw_r 182), some (sw_i n), some (sw_i t), some (sw_r 24), some (sw_i i)] [] h (sw_Qi (fun z h' => cK prH h0 h'))) ?_ _ _ ?_
      · rintro h6 i_7 ⟨Ih6, j8⟩ ihh6
        try dsimp only at ihh6
        refine sx_iload dX6_findCheapest_34 rfl ?_
        refine sx_bipush dX6_findCheapest_36 ⟨by decide, by decide, by decide⟩ ?_
        refine sx_icmp_ge (tgt := 64) dX6_findCheapest_38 (by decide) (fun c9 => ?_) (fun c9 => ?_)
        ·
          refine sx_aload_n dX6_findCheapest_64 rfl ?_
          refine sx_iload_n dX6_findCheapest_65 rfl ?_
          refine sx_callVv lk_X6_71 cl_6 s_182 (by decide) dX6_findCheapest_66 (vs := [_]) rfl rfl (Nat.le_of_ble_eq_true rfl) (Nat.le_of_ble_eq_true rfl) rfl (c_X6_reckonCosts _ Ih6.1 _ (by omega)) (fun h10 ph10 => ?_)
          have Kh10 := ph10
          have Ih10 := Ih6.tr Kh10 sb_prH_prI
          refine sx_aload_n dX6_findCheapest_69 rfl ?_
          refine sx_iload_n dX6_findCheapest_70 rfl ?_
          refine sx_callSi lk_X6_52 dX6_findCheapest_71 (vs := [_]) rfl rfl (Nat.le_of_ble_eq_true rfl) (Nat.le_of_ble_eq_true rfl) rfl (c_X6_firstRow _ Ih10.1 _ (by omega)) (fun x13 h12 ph12 => ?_)
          obtain ⟨rfl, s_x13⟩ := ph12
          refine sx_iload_n dX6_findCheapest_74 rfl ?_
          refine sx_callVv lk_X6_75 cl_6 s_182 (by decide) dX6_findCheapest_75 (vs := [_, _]) rfl rfl (Nat.le_of_ble_eq_true rfl) (Nat.le_of_ble_eq_true rfl) rfl (c_X6_walkCheaply _ Ih10.1 _ _ (by omega)) (fun h14 ph14 => ?_)
          have Kh14 := ph14
          have Ih14 := Ih10.tr Kh14 sb_prH_prH
          refine sx_aload_n dX6_findCheapest_78 rfl ?_
          refine sx_getS (k := 4) (t := 186) cl_6 fl_X6_21 dX6_findCheapest_79 s_182 (by decide) rfl (by decide) ?_
          refine sx_iload_n dX6_findCheapest_82 rfl ?_
          refine sx_callSi lk_X6_52 dX6_findCheapest_83 (vs := [_]) rfl rfl (Nat.le_of_ble_eq_true rfl) (Nat.le_of_ble_eq_true rfl) rfl (c_X6_firstRow _ Ih14.1 _ (by omega)) (fun x17 h16 ph16 => ?_)
          obtain ⟨rfl, s_x17⟩ := ph16
          refine sx_iaload dX6_findCheapest_86 s_186 (by decide) (by decide) ⟨by omega, by omega⟩ ?_
          refine sx_sipush dX6_findCheapest_87 ⟨by decide, by decide, by decide⟩ ?_
          refine sx_idiv dX6_findCheapest_90 (by omega) ?_
          refine sx_ireturn dX6_findCheapest_91 ?_
          exact ⟨_, rfl, Ih14⟩
        ·
          refine sx_aload_n dX6_findCheapest_41 rfl ?_
          refine sx_getS (k := 5) (t := 187) cl_6 fl_X6_24 dX6_findCheapest_42 s_182 (by decide) rfl (by decide) ?_
          refine sx_iload dX6_findCheapest_45 rfl ?_
          refine sx_aload_n dX6_findCheapest_47 rfl ?_
          refine sx_iload dX6_findCheapest_48 rfl ?_
          refine sx_iaload dX6_findCheapest_50 s_24 (by decide) (by decide) ⟨by omega, by omega⟩ ?_
          refine sx_sipush dX6_findCheapest_51 ⟨by decide, by decide, by decide⟩ ?_
          refine sx_imul dX6_findCheapest_54 ?_
          refine sx_iconst dX6_findCheapest_55 ⟨by decide, by decide⟩ ?_
          refine sx_iadd dX6_findCheapest_56 ?_
          refine sy_iastore dX6_findCheapest_57 s_187 (by decide) (by decide) ⟨by omega, by omega⟩ (fun h18 eh18 => ?_)
          have Ih18 := Ih6.up eh18 trivial rfl rfl
          refine sx_iinc dX6_findCheapest_58 (by decide) rfl ?_
          rw [sw_w_id (by omega) (by omega)]
          refine sx_goto (tgt := 34) dX6_findCheapest_61 (by decide) ?_
          exact ihh6 _ _ ⟨Ih18, by omega⟩ (by exact sy_dec (by omega) (by omega))
      · exact ⟨Ih3, by omega⟩
    ·
      refine sx_iconst dX6_findCheapest_29 ⟨by decide, by decide⟩ ?_
      refine sx_ireturn dX6_findCheapest_30 ?_
      exact ⟨_, rfl, Ih3⟩
  ·
    refine sx_iconst dX6_findCheapest_10 ⟨by decide, by decide⟩ ?_
    refine sx_ireturn dX6_findCheapest_11 ?_
    exact ⟨_, rfl, Ih1⟩

-- ===== the class's rows of cells, exactly =====
def aI (x y : Int) : Int := (Int32.ofInt x &&& Int32.ofInt y).toInt
def oI (x y : Int) : Int := (Int32.ofInt x ||| Int32.ofInt y).toInt
def rI (x y : Int) : Int := (Int32.ofInt x >>> (Int32.ofInt y &&& 31)).toInt
def lI (x y : Int) : Int := (Int32.ofInt x <<< (Int32.ofInt y &&& 31)).toInt
def lsX (t : Int) : Int := if sw_sd 0 t.toNat = 1 then 1 else if sw_sd 0 t.toNat = 2 then 4 else 16
def cT (r t : Int) : Int :=
  if t = 0 then oI (lI r 2) (aI r 3) else if t = 1 then rI r 2 else if t = 2 then oI (oI (lI (rI r 4) 4) (lI (aI r 3) 2)) (aI (rI r 2) 3)
  else if t = 3 then oI (lI r 2) (aI (rI r 2) 3) else if t = 4 then oI (oI (oI (lI (rI r 6) 6) (lI (aI (rI r 2) 3) 4)) (lI (aI r 3) 2)) (aI (rI r 4) 3)
  else if t = 5 then oI (lI (rI r 4) 2) (aI r 3) else oI (oI (oI (lI (rI r 4) 6) (lI (aI r 3) 4)) (lI (aI (rI r 2) 3) 2)) (aI r 3)
def cS (r t : Int) : Int := if r < lsX t ∨ (sw_sd 0 t.toNat < sw_sd 1 t.toNat ∧ 255 < r) then -1 else cT r t
theorem cS_no {r t : Int} (h : r < lsX t ∨ (sw_sd 0 t.toNat < sw_sd 1 t.toNat ∧ 255 < r)) : -1 = cS r t := by
  unfold cS
  rw [if_pos h]
theorem cS_go {r t z : Int} (h : ¬ (r < lsX t ∨ (sw_sd 0 t.toNat < sw_sd 1 t.toNat ∧ 255 < r))) (e : z = cT r t) : z = cS r t := by
  unfold cS
  rw [if_neg h]
  exact e
/-- the row of the i-th stack -/
def rowE (v : Int) : Int := ((v / 10000 % 10 * 4 + v / 1000 % 10) * 4 + v / 100 % 10) * 16 + v / 10 % 10 * 4 + v % 10
def ckX (i t : Nat) : Bool :=
  let v : Int := ((vE i : Nat) : Int)
  let u := shN (vE i) t
  decide (0 ≤ rowE v ∧ rowE v ≤ 1023) && decide (cS (rowE v) t = if u = 100000 then -1 else rowE ((u : Nat) : Int))
set_option maxRecDepth 100000 in
theorem ckX_all : (List.range 364).all (fun i => (List.range 7).all (fun t => ckX i t)) = true := by decide +kernel
theorem fR {n q s : Int} (hn : 0 ≤ n ∧ n ≤ 3) (j : (s = 1 ∧ q = 0) ∨ (s = 2 ∧ q = 1) ∨ (s = 3 ∧ q = 6) ∨ (s = 4 ∧ q = 27)) (a : s ≤ n + 1) (b : n < s) : q = rowE (st0 n) := by
  have : n = 0 ∨ n = 1 ∨ n = 2 ∨ n = 3 := by omega
  rcases this with rfl | rfl | rfl | rfl
  · rw [show q = 0 by omega]; decide
  · rw [show q = 1 by omega]; decide
  · rw [show q = 6 by omega]; decide
  · rw [show q = 27 by omega]; decide

set_option maxRecDepth 20000 in
set_option maxHeartbeats 4000000 in
theorem x_X6_least {G : sw_G} (d : Nat) {h0 : sw_H} (hJ : cJ h0) (t : Int) (ht : 0 ≤ t ∧ t ≤ 6) : sw_E G NH SH (d) mX6_least 0 [some (sw_i t)] [] h0 (sw_Qi (fun z h' => h0 = h' ∧ z = lsX t)) := by
  have hI : cK pr0 h0 h0 := cK.refl hJ
  refine sx_gets (t := 0) (by decide) sl_X6_37 dX6_least_0 ?_
  refine sx_iload_n dX6_least_3 rfl ?_
  refine sy_sia (t := 0) (n := 15) (by decide) dX6_least_4 rfl ⟨by omega, by omega⟩ (fun r1 => ?_)
  refine sx_iconst dX6_least_5 ⟨by decide, by decide⟩ ?_
  refine sx_icmp_ne (tgt := 13) dX6_least_6 (by decide) (fun c2 => ?_) (fun c2 => ?_)
  ·
    refine sx_gets (t := 0) (by decide) sl_X6_37 dX6_least_13 ?_
    refine sx_iload_n dX6_least_16 rfl ?_
    refine sy_sia (t := 0) (n := 15) (by decide) dX6_least_17 rfl ⟨by omega, by omega⟩ (fun r3 => ?_)
    refine sx_iconst dX6_least_18 ⟨by decide, by decide⟩ ?_
    refine sx_icmp_ne (tgt := 26) dX6_least_19 (by decide) (fun c4 => ?_) (fun c4 => ?_)
    ·
      refine sx_bipush dX6_least_26 ⟨by decide, by decide, by decide⟩ ?_
      refine sx_ireturn dX6_least_28 ?_
      exact ⟨_, rfl, ⟨rfl, by (unfold lsX; first | rw [if_pos (by omega)] | rw [if_neg (by omega), if_pos (by omega)] | rw [if_neg (by omega), if_neg (by omega)])⟩⟩
    ·
      refine sx_iconst dX6_least_22 ⟨by decide, by decide⟩ ?_
      refine sx_goto (tgt := 28) dX6_least_23 (by decide) ?_
      refine sx_ireturn dX6_least_28 ?_
      exact ⟨_, rfl, ⟨rfl, by (unfold lsX; first | rw [if_pos (by omega)] | rw [if_neg (by omega), if_pos (by omega)] | rw [if_neg (by omega), if_neg (by omega)])⟩⟩
  ·
    refine sx_iconst dX6_least_9 ⟨by decide, by decide⟩ ?_
    refine sx_goto (tgt := 28) dX6_least_10 (by decide) ?_
    refine sx_ireturn dX6_least_28 ?_
    exact ⟨_, rfl, ⟨rfl, by (unfold lsX; first | rw [if_pos (by omega)] | rw [if_neg (by omega), if_pos (by omega)] | rw [if_neg (by omega), if_neg (by omega)])⟩⟩
set_option maxRecDepth 20000 in
set_option maxHeartbeats 4000000 in
theorem x_X6_shuffle {G : sw_G} (d : Nat) {h0 : sw_H} (hJ : cJ h0) (r t : Int) (hr : 0 ≤ r ∧ r ≤ 1023) (ht : 0 ≤ t ∧ t ≤ 6) : sw_E G NH SH (d + 1) mX6_shuffle 0 [some (sw_i r), some (sw_i t), none, none, none] [] h0 (sw_Qi (fun z h' => h0 = h' ∧ z = cS r t)) := by
  have hI : cK pr0 h0 h0 := cK.refl hJ
  refine sx_iload_n dX6_shuffle_0 rfl ?_
  refine sx_iload_n dX6_shuffle_1 rfl ?_
  refine sx_callSi lk_X6_30 dX6_shuffle_2 (vs := [_]) rfl rfl (Nat.le_of_ble_eq_true rfl) (Nat.le_of_ble_eq_true rfl) rfl (x_X6_least _ hI.1 _ (by omega)) (fun x2 h1 ph1 => ?_)
  obtain ⟨rfl, s_x2⟩ := ph1
  refine sx_icmp_lt (tgt := 28) dX6_shuffle_5 (by decide) (fun c3 => ?_) (fun c3 => ?_)
  ·
    refine sx_iconst dX6_shuffle_28 ⟨by decide, by decide⟩ ?_
    refine sx_ireturn dX6_shuffle_29 ?_
    exact ⟨_, rfl, ⟨rfl, cS_no (by omega)⟩⟩
  ·
    refine sx_gets (t := 1) (by decide) sl_X6_34 dX6_shuffle_8 ?_
    refine sx_iload_n dX6_shuffle_11 rfl ?_
    refine sy_sia (t := 1) (n := 15) (by decide) dX6_shuffle_12 rfl ⟨by omega, by omega⟩ (fun r4 => ?_)
    refine sx_gets (t := 0) (by decide) sl_X6_37 dX6_shuffle_13 ?_
    refine sx_iload_n dX6_shuffle_16 rfl ?_
    refine sy_sia (t := 0) (n := 15) (by decide) dX6_shuffle_17 rfl ⟨by omega, by omega⟩ (fun r5 => ?_)
    refine sx_icmp_le (tgt := 30) dX6_shuffle_18 (by decide) (fun c6 => ?_) (fun c6 => ?_)
    ·
      refine sx_iload_n dX6_shuffle_30 rfl ?_
      refine sx_iconst dX6_shuffle_31 ⟨by decide, by decide⟩ ?_
      refine sx_iand dX6_shuffle_32 ?_
      refine sy_top (fun v7 ev7 => ?_)
      refine sx_istore_n dX6_shuffle_33 (by decide) ?_
      refine sx_iload_n dX6_shuffle_34 rfl ?_
      refine sx_iconst dX6_shuffle_35 ⟨by decide, by decide⟩ ?_
      refine sx_ishr dX6_shuffle_36 ?_
      refine sx_iconst dX6_shuffle_37 ⟨by decide, by decide⟩ ?_
      refine sx_iand dX6_shuffle_38 ?_
      refine sy_top (fun v8 ev8 => ?_)
      refine sx_istore_n dX6_shuffle_39 (by decide) ?_
      refine sx_iload_n dX6_shuffle_40 rfl ?_
      refine sx_iconst dX6_shuffle_41 ⟨by decide, by decide⟩ ?_
      refine sx_ishr dX6_shuffle_42 ?_
      refine sx_iconst dX6_shuffle_43 ⟨by decide, by decide⟩ ?_
      refine sx_iand dX6_shuffle_44 ?_
      refine sy_top (fun v9 ev9 => ?_)
      refine sx_istore dX6_shuffle_45 (by decide) ?_
      refine sx_iload_n dX6_shuffle_47 rfl ?_
      refine sx_tsw (dt := 164) (ts := [92, 98, 102, 114, 120, 139, 147]) dX6_shuffle_48 (by decide) (by decide) (by decide) (fun c10 => ?_) (And.intro (fun c10 => ?_) (And.intro (fun c10 => ?_) (And.intro (fun c10 => ?_) (And.intro (fun c10 => ?_) (And.intro (fun c10 => ?_) (And.intro (fun c10 => ?_) (And.intro (fun c10 => ?_) trivial)))))))
      ·
        refine sx_iconst dX6_shuffle_164 ⟨by decide, by decide⟩ ?_
        refine sx_ireturn dX6_shuffle_165 ?_
        exact ⟨_, rfl, ⟨rfl, by omega⟩⟩
      ·
        refine sx_iload_n dX6_shuffle_92 rfl ?_
        refine sx_iconst dX6_shuffle_93 ⟨by decide, by decide⟩ ?_
        refine sx_ishl dX6_shuffle_94 ?_
        refine sx_iload_n dX6_shuffle_95 rfl ?_
        refine sx_ior dX6_shuffle_96 ?_
        refine sx_ireturn dX6_shuffle_97 ?_
        exact ⟨_, rfl, ⟨rfl, cS_go (by omega) (by (have q : t = 0 := (by omega); subst_vars; rfl))⟩⟩
      ·
        refine sx_iload_n dX6_shuffle_98 rfl ?_
        refine sx_iconst dX6_shuffle_99 ⟨by decide, by decide⟩ ?_
        refine sx_ishr dX6_shuffle_100 ?_
        refine sx_ireturn dX6_shuffle_101 ?_
        exact ⟨_, rfl, ⟨rfl, cS_go (by omega) (by (have q : t = 1 := (by omega); subst_vars; rfl))⟩⟩
      ·
        refine sx_iload_n dX6_shuffle_102 rfl ?_
        refine sx_iconst dX6_shuffle_103 ⟨by decide, by decide⟩ ?_
        refine sx_ishr dX6_shuffle_104 ?_
        refine sx_iconst dX6_shuffle_105 ⟨by decide, by decide⟩ ?_
        refine sx_ishl dX6_shuffle_106 ?_
        refine sx_iload_n dX6_shuffle_107 rfl ?_
        refine sx_iconst dX6_shuffle_108 ⟨by decide, by decide⟩ ?_
        refine sx_ishl dX6_shuffle_109 ?_
        refine sx_ior dX6_shuffle_110 ?_
        refine sx_iload_n dX6_shuffle_111 rfl ?_
        refine sx_ior dX6_shuffle_112 ?_
        refine sx_ireturn dX6_shuffle_113 ?_
        exact ⟨_, rfl, ⟨rfl, cS_go (by omega) (by (have q : t = 2 := (by omega); subst_vars; rfl))⟩⟩
      ·
        refine sx_iload_n dX6_shuffle_114 rfl ?_
        refine sx_iconst dX6_shuffle_115 ⟨by decide, by decide⟩ ?_
        refine sx_ishl dX6_shuffle_116 ?_
        refine sx_iload_n dX6_shuffle_117 rfl ?_
        refine sx_ior dX6_shuffle_118 ?_
        refine sx_ireturn dX6_shuffle_119 ?_
        exact ⟨_, rfl, ⟨rfl, cS_go (by omega) (by (have q : t = 3 := (by omega); subst_vars; rfl))⟩⟩
      ·
        refine sx_iload_n dX6_shuffle_120 rfl ?_
        refine sx_bipush dX6_shuffle_121 ⟨by decide, by decide, by decide⟩ ?_
        refine sx_ishr dX6_shuffle_123 ?_
        refine sx_bipush dX6_shuffle_124 ⟨by decide, by decide, by decide⟩ ?_
        refine sx_ishl dX6_shuffle_126 ?_
        refine sx_iload_n dX6_shuffle_127 rfl ?_
        refine sx_iconst dX6_shuffle_128 ⟨by decide, by decide⟩ ?_
        refine sx_ishl dX6_shuffle_129 ?_
        refine sx_ior dX6_shuffle_130 ?_
        refine sx_iload_n dX6_shuffle_131 rfl ?_
        refine sx_iconst dX6_shuffle_132 ⟨by decide, by decide⟩ ?_
        refine sx_ishl dX6_shuffle_133 ?_
        refine sx_ior dX6_shuffle_134 ?_
        refine sx_iload dX6_shuffle_135 rfl ?_
        refine sx_ior dX6_shuffle_137 ?_
        refine sx_ireturn dX6_shuffle_138 ?_
        exact ⟨_, rfl, ⟨rfl, cS_go (by omega) (by (have q : t = 4 := (by omega); subst_vars; rfl))⟩⟩
      ·
        refine sx_iload_n dX6_shuffle_139 rfl ?_
        refine sx_iconst dX6_shuffle_140 ⟨by decide, by decide⟩ ?_
        refine sx_ishr dX6_shuffle_141 ?_
        refine sx_iconst dX6_shuffle_142 ⟨by decide, by decide⟩ ?_
        refine sx_ishl dX6_shuffle_143 ?_
        refine sx_iload_n dX6_shuffle_144 rfl ?_
        refine sx_ior dX6_shuffle_145 ?_
        refine sx_ireturn dX6_shuffle_146 ?_
        exact ⟨_, rfl, ⟨rfl, cS_go (by omega) (by (have q : t = 5 := (by omega); subst_vars; rfl))⟩⟩
      ·
        refine sx_iload_n dX6_shuffle_147 rfl ?_
        refine sx_iconst dX6_shuffle_148 ⟨by decide, by decide⟩ ?_
        refine sx_ishr dX6_shuffle_149 ?_
        refine sx_bipush dX6_shuffle_150 ⟨by decide, by decide, by decide⟩ ?_
        refine sx_ishl dX6_shuffle_152 ?_
        refine sx_iload_n dX6_shuffle_153 rfl ?_
        refine sx_iconst dX6_shuffle_154 ⟨by decide, by decide⟩ ?_
        refine sx_ishl dX6_shuffle_155 ?_
        refine sx_ior dX6_shuffle_156 ?_
        refine sx_iload_n dX6_shuffle_157 rfl ?_
        refine sx_iconst dX6_shuffle_158 ⟨by decide, by decide⟩ ?_
        refine sx_ishl dX6_shuffle_159 ?_
        refine sx_ior dX6_shuffle_160 ?_
        refine sx_iload_n dX6_shuffle_161 rfl ?_
        refine sx_ior dX6_shuffle_162 ?_
        refine sx_ireturn dX6_shuffle_163 ?_
        exact ⟨_, rfl, ⟨rfl, cS_go (by omega) (by (have q : t = 6 := (by omega); subst_vars; rfl))⟩⟩
    ·
      refine sx_iload_n dX6_shuffle_21 rfl ?_
      refine sx_sipush dX6_shuffle_22 ⟨by decide, by decide, by decide⟩ ?_
      refine sx_icmp_le (tgt := 30) dX6_shuffle_25 (by decide) (fun c11 => ?_) (fun c11 => ?_)
      ·
        refine sx_iload_n dX6_shuffle_30 rfl ?_
        refine sx_iconst dX6_shuffle_31 ⟨by decide, by decide⟩ ?_
        refine sx_iand dX6_shuffle_32 ?_
        refine sy_top (fun v12 ev12 => ?_)
        refine sx_istore_n dX6_shuffle_33 (by decide) ?_
        refine sx_iload_n dX6_shuffle_34 rfl ?_
        refine sx_iconst dX6_shuffle_35 ⟨by decide, by decide⟩ ?_
        refine sx_ishr dX6_shuffle_36 ?_
        refine sx_iconst dX6_shuffle_37 ⟨by decide, by decide⟩ ?_
        refine sx_iand dX6_shuffle_38 ?_
        refine sy_top (fun v13 ev13 => ?_)
        refine sx_istore_n dX6_shuffle_39 (by decide) ?_
        refine sx_iload_n dX6_shuffle_40 rfl ?_
        refine sx_iconst dX6_shuffle_41 ⟨by decide, by decide⟩ ?_
        refine sx_ishr dX6_shuffle_42 ?_
        refine sx_iconst dX6_shuffle_43 ⟨by decide, by decide⟩ ?_
        refine sx_iand dX6_shuffle_44 ?_
        refine sy_top (fun v14 ev14 => ?_)
        refine sx_istore dX6_shuffle_45 (by decide) ?_
        refine sx_iload_n dX6_shuffle_47 rfl ?_
        refine sx_tsw (dt := 164) (ts := [92, 98, 102, 114, 120, 139, 147]) dX6_shuffle_48 (by decide) (by decide) (by decide) (fun c15 => ?_) (And.intro (fun c15 => ?_) (And.intro (fun c15 => ?_) (And.intro (fun c15 => ?_) (And.intro (fun c15 => ?_) (And.intro (fun c15 => ?_) (And.intro (fun c15 => ?_) (And.intro (fun c15 => ?_) trivial)))))))
        ·
          refine sx_iconst dX6_shuffle_164 ⟨by decide, by decide⟩ ?_
          refine sx_ireturn dX6_shuffle_165 ?_
          exact ⟨_, rfl, ⟨rfl, by omega⟩⟩
        ·
          refine sx_iload_n dX6_shuffle_92 rfl ?_
          refine sx_iconst dX6_shuffle_93 ⟨by decide, by decide⟩ ?_
          refine sx_ishl dX6_shuffle_94 ?_
          refine sx_iload_n dX6_shuffle_95 rfl ?_
          refine sx_ior dX6_shuffle_96 ?_
          refine sx_ireturn dX6_shuffle_97 ?_
          exact ⟨_, rfl, ⟨rfl, cS_go (by omega) (by (have q : t = 0 := (by omega); subst_vars; rfl))⟩⟩
        ·
          refine sx_iload_n dX6_shuffle_98 rfl ?_
          refine sx_iconst dX6_shuffle_99 ⟨by decide, by decide⟩ ?_
          refine sx_ishr dX6_shuffle_100 ?_
          refine sx_ireturn dX6_shuffle_101 ?_
          exact ⟨_, rfl, ⟨rfl, cS_go (by omega) (by (have q : t = 1 := (by omega); subst_vars; rfl))⟩⟩
        ·
          refine sx_iload_n dX6_shuffle_102 rfl ?_
          refine sx_iconst dX6_shuffle_103 ⟨by decide, by decide⟩ ?_
          refine sx_ishr dX6_shuffle_104 ?_
          refine sx_iconst dX6_shuffle_105 ⟨by decide, by decide⟩ ?_
          refine sx_ishl dX6_shuffle_106 ?_
          refine sx_iload_n dX6_shuffle_107 rfl ?_
          refine sx_iconst dX6_shuffle_108 ⟨by decide, by decide⟩ ?_
          refine sx_ishl dX6_shuffle_109 ?_
          refine sx_ior dX6_shuffle_110 ?_
          refine sx_iload_n dX6_shuffle_111 rfl ?_
          refine sx_ior dX6_shuffle_112 ?_
          refine sx_ireturn dX6_shuffle_113 ?_
          exact ⟨_, rfl, ⟨rfl, cS_go (by omega) (by (have q : t = 2 := (by omega); subst_vars; rfl))⟩⟩
        ·
          refine sx_iload_n dX6_shuffle_114 rfl ?_
          refine sx_iconst dX6_shuffle_115 ⟨by decide, by decide⟩ ?_
          refine sx_ishl dX6_shuffle_116 ?_
          refine sx_iload_n dX6_shuffle_117 rfl ?_
          refine sx_ior dX6_shuffle_118 ?_
          refine sx_ireturn dX6_shuffle_119 ?_
          exact ⟨_, rfl, ⟨rfl, cS_go (by omega) (by (have q : t = 3 := (by omega); subst_vars; rfl))⟩⟩
        ·
          refine sx_iload_n dX6_shuffle_120 rfl ?_
          refine sx_bipush dX6_shuffle_121 ⟨by decide, by decide, by decide⟩ ?_
          refine sx_ishr dX6_shuffle_123 ?_
          refine sx_bipush dX6_shuffle_124 ⟨by decide, by decide, by decide⟩ ?_
          refine sx_ishl dX6_shuffle_126 ?_
          refine sx_iload_n dX6_shuffle_127 rfl ?_
          refine sx_iconst dX6_shuffle_128 ⟨by decide, by decide⟩ ?_
          refine sx_ishl dX6_shuffle_129 ?_
          refine sx_ior dX6_shuffle_130 ?_
          refine sx_iload_n dX6_shuffle_131 rfl ?_
          refine sx_iconst dX6_shuffle_132 ⟨by decide, by decide⟩ ?_
          refine sx_ishl dX6_shuffle_133 ?_
          refine sx_ior dX6_shuffle_134 ?_
          refine sx_iload dX6_shuffle_135 rfl ?_
          refine sx_ior dX6_shuffle_137 ?_
          refine sx_ireturn dX6_shuffle_138 ?_
          exact ⟨_, rfl, ⟨rfl, cS_go (by omega) (by (have q : t = 4 := (by omega); subst_vars; rfl))⟩⟩
        ·
          refine sx_iload_n dX6_shuffle_139 rfl ?_
          refine sx_iconst dX6_shuffle_140 ⟨by decide, by decide⟩ ?_
          refine sx_ishr dX6_shuffle_141 ?_
          refine sx_iconst dX6_shuffle_142 ⟨by decide, by decide⟩ ?_
          refine sx_ishl dX6_shuffle_143 ?_
          refine sx_iload_n dX6_shuffle_144 rfl ?_
          refine sx_ior dX6_shuffle_145 ?_
          refine sx_ireturn dX6_shuffle_146 ?_
          exact ⟨_, rfl, ⟨rfl, cS_go (by omega) (by (have q : t = 5 := (by omega); subst_vars; rfl))⟩⟩
        ·
          refine sx_iload_n dX6_shuffle_147 rfl ?_
          refine sx_iconst dX6_shuffle_148 ⟨by decide, by decide⟩ ?_
          refine sx_ishr dX6_shuffle_149 ?_
          refine sx_bipush dX6_shuffle_150 ⟨by decide, by decide, by decide⟩ ?_
          refine sx_ishl dX6_shuffle_152 ?_
          refine sx_iload_n dX6_shuffle_153 rfl ?_
          refine sx_iconst dX6_shuffle_154 ⟨by decide, by decide⟩ ?_
          refine sx_ishl dX6_shuffle_155 ?_
          refine sx_ior dX6_shuffle_156 ?_
          refine sx_iload_n dX6_shuffle_157 rfl ?_
          refine sx_iconst dX6_shuffle_158 ⟨by decide, by decide⟩ ?_
          refine sx_ishl dX6_shuffle_159 ?_
          refine sx_ior dX6_shuffle_160 ?_
          refine sx_iload_n dX6_shuffle_161 rfl ?_
          refine sx_ior dX6_shuffle_162 ?_
          refine sx_ireturn dX6_shuffle_163 ?_
          exact ⟨_, rfl, ⟨rfl, cS_go (by omega) (by (have q : t = 6 := (by omega); subst_vars; rfl))⟩⟩
      ·
        refine sx_iconst dX6_shuffle_28 ⟨by decide, by decide⟩ ?_
        refine sx_ireturn dX6_shuffle_29 ?_
        exact ⟨_, rfl, ⟨rfl, cS_no (by omega)⟩⟩
set_option maxRecDepth 20000 in
set_option maxHeartbeats 4000000 in
theorem x_X6_firstRow {G : sw_G} (d : Nat) {h0 : sw_H} (hJ : cJ h0) (n : Int) (hn : 0 ≤ n ∧ n ≤ 3) : sw_E G NH SH (d) mX6_firstRow 0 [some (sw_i n), none, none] [] h0 (sw_Qi (fun z h' => h0 = h' ∧ z = rowE (st0 n))) := by
  have hI : cK pr0 h0 h0 := cK.refl hJ
  refine sx_iconst dX6_firstRow_0 ⟨by decide, by decide⟩ ?_
  refine sx_istore_n dX6_firstRow_1 (by decide) ?_
  refine sx_iconst dX6_firstRow_2 ⟨by decide, by decide⟩ ?_
  refine sx_istore_n dX6_firstRow_3 (by decide) ?_
  refine sx_loop2 (fun (h : sw_H) (q : Int) (s : Int) => (h0 = h) ∧ ((s = 1 ∧ q = 0) ∨ (s = 2 ∧ q = 1) ∨ (s = 3 ∧ q = 6) ∨ (s = 4 ∧ q = 27)) ∧ (s ≤ n + 1)) (fun (h : sw_H) (q : Int) (s : Int) => (4 - s).toNat) (fun (h : sw_H) (q : Int) (s : Int) => sw_E G NH SH (d) mX6_firstRow 4 [some (sw_i n), some (sw_i q), some (sw_i s)] [] h (sw_Qi (fun z h' => h0 = h' ∧ z = rowE (st0 n)))) ?_ _ _ _ ?_
  · rintro h1 q_2 s_3 ⟨rfl, j4, j5⟩ ihh1
    try dsimp only at ihh1
    refine sx_iload_n dX6_firstRow_4 rfl ?_
    refine sx_iload_n dX6_firstRow_5 rfl ?_
    refine sx_icmp_gt (tgt := 21) dX6_firstRow_6 (by decide) (fun c6 => ?_) (fun c6 => ?_)
    ·
      refine sx_iload_n dX6_firstRow_21 rfl ?_
      refine sx_ireturn dX6_firstRow_22 ?_
      exact ⟨_, rfl, ⟨rfl, fR hn j4 j5 c6⟩⟩
    ·
      refine sx_iload_n dX6_firstRow_9 rfl ?_
      refine sx_iconst dX6_firstRow_10 ⟨by decide, by decide⟩ ?_
      refine sx_imul dX6_firstRow_11 ?_
      refine sy_topw (by omega) ?_
      refine sx_iload_n dX6_firstRow_12 rfl ?_
      refine sx_iadd dX6_firstRow_13 ?_
      refine sy_topw (by omega) ?_
      refine sy_top (fun v7 ev7 => ?_)
      refine sx_istore_n dX6_firstRow_14 (by decide) ?_
      refine sx_iinc dX6_firstRow_15 (by decide) rfl ?_
      rw [sw_w_id (by omega) (by omega)]
      refine sx_goto (tgt := 4) dX6_firstRow_18 (by decide) ?_
      exact ihh1 _ _ _ ⟨rfl, by omega, by omega⟩ (by exact sy_dec (by omega) (by omega))
  · exact ⟨rfl, by omega, by omega⟩
def qO (q r s : Int) : Int := sw_w (sw_w (q * 10) + aI (rI r s) 3)
def dO (r : Int) : Int := qO (qO (qO (qO (qO 0 r 8) r 6) r 4) r 2) r 0
def ckO (i : Nat) : Bool :=
  let v : Int := ((vE i : Nat) : Int)
  decide (dO (rowE v) = v) && decide (0 ≤ rowE v ∧ rowE v ≤ 1023) && decide (rowE v ≤ 255 ↔ dgs v ≤ 4)
set_option maxRecDepth 100000 in
theorem ckO_all : (List.range 364).all ckO = true := by decide +kernel
theorem rowE_V {v : Int} (h : V v) : dO (rowE v) = v ∧ (0 ≤ rowE v ∧ rowE v ≤ 1023) ∧ (rowE v ≤ 255 ↔ dgs v ≤ 4) := by
  obtain ⟨i, hi, rfl⟩ := h
  have k := List.all_eq_true.mp ckO_all i (List.mem_range.mpr hi)
  unfold ckO at k
  simp only [Bool.and_eq_true, decide_eq_true_eq] at k
  exact ⟨k.1.1, k.1.2, k.2⟩
theorem cS_V {v t : Int} (h : V v) (ht : 0 ≤ t ∧ t ≤ 6) : cS (rowE v) t = if shI v t = -1 then -1 else rowE (shI v t) := by
  obtain ⟨i, hi, rfl⟩ := h
  obtain ⟨t, rfl⟩ := Int.eq_ofNat_of_zero_le ht.1
  have k := List.all_eq_true.mp (List.all_eq_true.mp ckX_all i (List.mem_range.mpr hi)) t (List.mem_range.mpr (by omega))
  unfold ckX at k
  simp only [Bool.and_eq_true, decide_eq_true_eq] at k
  have k2 := k.2
  unfold shI
  simp only [Int.toNat_natCast]
  by_cases q : shN (vE i) t = 100000
  · rw [if_pos q] at k2 ⊢
    rw [k2, if_pos rfl]
  · rw [if_neg q] at k2 ⊢
    rw [k2, if_neg (by omega)]
def FI (n m q u t : Int) : Prop := ∃ (j : Nat) (v : Int), j ≤ 7 ∧ t = (if j = 0 then 0 else pw 10 (j - 1)) ∧ V v ∧ q = rowE v ∧ shF (min j (dgs m).toNat) m v = shF (dgs m).toNat m (st0 n) ∧ (u = 0 ↔ (dgs m).toNat ≤ j)
theorem pw10 {k : Nat} (h : k ≤ 6) : (k = 0 ∧ pw 10 k = 1) ∨ (k = 1 ∧ pw 10 k = 10) ∨ (k = 2 ∧ pw 10 k = 100) ∨ (k = 3 ∧ pw 10 k = 1000) ∨ (k = 4 ∧ pw 10 k = 10000) ∨ (k = 5 ∧ pw 10 k = 100000) ∨ (k = 6 ∧ pw 10 k = 1000000) := by
  rcases (show k = 0 ∨ k = 1 ∨ k = 2 ∨ k = 3 ∨ k = 4 ∨ k = 5 ∨ k = 6 by omega) with rfl | rfl | rfl | rfl | rfl | rfl | rfl <;> decide
theorem dgI_f {m : Int} {k : Nat} (hm : 0 ≤ m ∧ m ≤ 9999999) (h : k ≤ 6) : 0 ≤ dgI m k ∧ dgI m k ≤ 9 ∧ ((dgs m).toNat ≤ k → dgI m k = 0) ∧ ((dgs m).toNat = k + 1 → dgI m k ≠ 0) := by
  have p := pw10 h
  have e : dgI m k = m / pw 10 k % 10 := by
    unfold dgI
    have p1 : 1 ≤ pw 10 k ∧ pw 10 k ≤ 1000000 := by omega
    have d1 : 0 ≤ m / pw 10 k := Int.ediv_nonneg hm.1 (by omega)
    have d2 : m / pw 10 k ≤ m := Int.ediv_le_self _ hm.1
    rw [Int.tdiv_eq_ediv_of_nonneg hm.1, show sw_w (m / pw 10 k) = m / pw 10 k from sw_w_id (by omega) (by omega), Int.tmod_eq_emod_of_nonneg d1, sw_w_id (by omega) (by omega)]
  rw [e]
  unfold dgs
  rcases p with ⟨rfl, p⟩ | ⟨rfl, p⟩ | ⟨rfl, p⟩ | ⟨rfl, p⟩ | ⟨rfl, p⟩ | ⟨rfl, p⟩ | ⟨rfl, p⟩ <;> rw [p] <;> (refine ⟨by omega, by omega, fun q => ?_, fun q => ?_⟩) <;> (repeat' split at q) <;> omega
theorem FI_init {n m : Int} (hn : 0 ≤ n ∧ n ≤ 3) : FI n m (rowE (st0 n)) 0 1000000 := by
  have d7 := dgs_7 m
  refine ⟨7, st0 n, by omega, by decide, (V_start (n := n) rfl).1, rfl, ?_, ?_⟩
  · rw [show min 7 (dgs m).toNat = (dgs m).toNat by omega]
  · constructor
    · intro _; omega
    · intro _; rfl
theorem FI_rng {n m q u t : Int} (F : FI n m q u t) : 0 ≤ q ∧ q ≤ 1023 ∧ 0 ≤ t ∧ t ≤ 1000000 := by
  obtain ⟨j, v, hj, ht, hv, hq, -, -⟩ := F
  have r := (rowE_V hv).2.1
  by_cases z : j = 0
  · rw [if_pos z] at ht; omega
  · rw [if_neg z] at ht
    have p := pw10 (k := j - 1) (by omega)
    omega
theorem FI_end {n m q u t : Int} (hn : 0 ≤ n ∧ n ≤ 3) (hm : 0 ≤ m ∧ m ≤ 9999999) (F : FI n m q u t) (h1 : t < 1) : (255 < q → -1 = XS n m) ∧ (q ≤ 255 → dO q = XS n m) := by
  obtain ⟨j, v, hj, ht, hv, hq, hF, -⟩ := F
  have r := rowE_V hv
  have vr := V_rng hv
  have j0 : j = 0 := by
    by_cases z : j = 0
    · exact z
    · rw [if_neg z] at ht
      have p := pw10 (k := j - 1) (by omega)
      omega
  rw [j0, show min 0 (dgs m).toNat = 0 by omega] at hF
  have e : XS n m = XF v := by
    unfold XS
    rw [if_pos ⟨hn, hm⟩, ← hF]
    rfl
  rw [e]
  unfold XF
  rw [if_neg (by omega)]
  refine ⟨fun h => ?_, fun h => ?_⟩
  · rw [if_neg (by have := r.2.2; omega)]
  · rw [if_pos (by have := r.2.2; omega), hq]; exact r.1
theorem FI_at {n m q u t : Int} (hm : 0 ≤ m ∧ m ≤ 9999999) (F : FI n m q u t) (h1 : 1 ≤ t) : ∃ (k : Nat) (v : Int), k ≤ 6 ∧ t = pw 10 k ∧ V v ∧ q = rowE v ∧ (t.tdiv 10 = if k = 0 then 0 else pw 10 (k - 1)) ∧ (u = 0 → dgI m k = 0 → shF (min k (dgs m).toNat) m v = shF (dgs m).toNat m (st0 n) ∧ (dgs m).toNat ≤ k) ∧ (u ≠ 0 ∨ dgI m k ≠ 0 → k < (dgs m).toNat ∧ shF k m (if 0 ≤ tI m k ∧ tI m k ≤ 6 then shI v (tI m k) else -1) = shF (dgs m).toNat m (st0 n)) := by
  obtain ⟨j, v, hj, ht, hv, hq, hF, hu⟩ := F
  have vr := V_rng hv
  have j0 : j ≠ 0 := by
    intro z
    rw [if_pos z] at ht
    omega
  rw [if_neg j0] at ht
  have p := pw10 (k := j - 1) (by omega)
  have g := dgI_f (k := j - 1) hm (by omega)
  refine ⟨j - 1, v, by omega, ht, hv, hq, ?_, fun u0 d0 => ?_, fun h => ?_⟩
  · rw [ht]
    rcases p with ⟨a, b⟩ | ⟨a, b⟩ | ⟨a, b⟩ | ⟨a, b⟩ | ⟨a, b⟩ | ⟨a, b⟩ | ⟨a, b⟩ <;> rw [a] <;> decide
  · have a := hu.mp u0
    have b : (dgs m).toNat ≤ j - 1 := by
      rcases Nat.lt_or_ge (j - 1) (dgs m).toNat with z | z
      · exact absurd d0 (g.2.2.2 (by omega))
      · exact z
    refine ⟨?_, b⟩
    rw [show min (j - 1) (dgs m).toNat = min j (dgs m).toNat by omega]
    exact hF
  · have b : j - 1 < (dgs m).toNat := by
      rcases h with h | h
      · have := mt hu.mpr h
        omega
      · rcases Nat.lt_or_ge (j - 1) (dgs m).toNat with z | z
        · exact z
        · exact absurd (g.2.2.1 z) h
    refine ⟨b, ?_⟩
    rw [← hF, show min j (dgs m).toNat = (j - 1) + 1 by omega]
    exact (if_neg (show ¬ v < 0 by omega)).symm
theorem XS_neg {n m : Int} {k : Nat} (hn : 0 ≤ n ∧ n ≤ 3) (hm : 0 ≤ m ∧ m ≤ 9999999) (h : shF k m (-1) = shF (dgs m).toNat m (st0 n)) : -1 = XS n m := by
  unfold XS
  rw [if_pos ⟨hn, hm⟩, ← h, shF_neg (by decide)]
  rfl
theorem tI_e {m : Int} {k : Nat} (hm : 0 ≤ m ∧ m ≤ 9999999) (h : k ≤ 6) : tI m k = dgI m k - 1 := by
  have g := dgI_f hm h
  unfold tI
  rw [sw_w_id (by omega) (by omega)]
theorem FI_zero {n m q u t : Int} (hm : 0 ≤ m ∧ m ≤ 9999999) (F : FI n m q u t) (h1 : 1 ≤ t) (hu : u = 0) (hd : sw_w ((sw_w (m.tdiv t)).tmod 10) = 0) : FI n m q 0 (t.tdiv 10) := by
  obtain ⟨k, v, hk, ht, hv, hq, ht2, a, -⟩ := FI_at hm F h1
  rw [ht] at hd
  obtain ⟨b, c⟩ := a hu hd
  exact ⟨k, v, by omega, ht2, hv, hq, b, ⟨fun _ => c, fun _ => rfl⟩⟩
theorem FI_bad {n m q u t : Int} (hn : 0 ≤ n ∧ n ≤ 3) (hm : 0 ≤ m ∧ m ≤ 9999999) (F : FI n m q u t) (h1 : 1 ≤ t) (hu : u ≠ 0 ∨ sw_w ((sw_w (m.tdiv t)).tmod 10) ≠ 0) (hd : sw_w ((sw_w (m.tdiv t)).tmod 10) < 1 ∨ 7 < sw_w ((sw_w (m.tdiv t)).tmod 10)) : -1 = XS n m := by
  obtain ⟨k, v, hk, ht, hv, hq, ht2, -, a⟩ := FI_at hm F h1
  rw [ht] at hd hu
  obtain ⟨b, c⟩ := a hu
  have e := tI_e (k := k) hm hk
  have hd : dgI m k < 1 ∨ 7 < dgI m k := hd
  rw [if_neg (by omega)] at c
  exact XS_neg hn hm c
theorem FI_sh {n m q u t d z : Int} (hn : 0 ≤ n ∧ n ≤ 3) (hm : 0 ≤ m ∧ m ≤ 9999999) (F : FI n m q u t) (h1 : 1 ≤ t) (e : d = sw_w ((sw_w (m.tdiv t)).tmod 10)) (hu : u ≠ 0 ∨ d ≠ 0) (hd : 1 ≤ d ∧ d ≤ 7) (hz : z = cS q (d - 1)) : (z = -1 → -1 = XS n m) ∧ (z ≠ -1 → FI n m z 1 (t.tdiv 10)) := by
  obtain ⟨k, v, hk, ht, hv, hq, ht2, -, a⟩ := FI_at hm F h1
  rw [ht] at e
  have e : d = dgI m k := e
  obtain ⟨b, c⟩ := a (by rw [← e]; exact hu)
  have e2 := tI_e (k := k) hm hk
  rw [← e] at e2
  rw [e2, if_pos (by omega)] at c
  rw [hz, hq, cS_V hv (by omega)]
  by_cases w : shI v (d - 1) = -1
  · rw [if_pos w]
    rw [w] at c
    exact ⟨fun _ => XS_neg hn hm c, fun h => absurd rfl h⟩
  · rw [if_neg w]
    have hV := (shI_V hv (t := d - 1) (by omega)).resolve_left w
    have r := (rowE_V hV).2.1
    refine ⟨fun h => by omega, fun _ => ⟨k, _, by omega, ht2, hV, rfl, ?_, ?_⟩⟩
    · rw [show min k (dgs m).toNat = k by omega]; exact c
    · constructor
      · intro h; exact absurd h (by decide)
      · intro h; omega

set_option maxRecDepth 20000 in
set_option maxHeartbeats 4000000 in
theorem x_X6_digitsOf {G : sw_G} (d : Nat) {h0 : sw_H} (hJ : cJ h0) (r : Int) : sw_E G NH SH (d) mX6_digitsOf 0 [some (sw_i r), none, none] [] h0 (sw_Qi (fun z h' => h0 = h' ∧ z = dO r)) := by
  have hI : cK pr0 h0 h0 := cK.refl hJ
  refine sx_iconst dX6_digitsOf_0 ⟨by decide, by decide⟩ ?_
  refine sx_istore_n dX6_digitsOf_1 (by decide) ?_
  refine sx_bipush dX6_digitsOf_2 ⟨by decide, by decide, by decide⟩ ?_
  refine sx_istore_n dX6_digitsOf_4 (by decide) ?_
  refine sx_loop2 (fun (h : sw_H) (q : Int) (s : Int) => (h0 = h) ∧ ((s = 8 ∧ q = 0) ∨ (s = 6 ∧ q = qO 0 r 8) ∨ (s = 4 ∧ q = qO (qO 0 r 8) r 6) ∨ (s = 2 ∧ q = qO (qO (qO 0 r 8) r 6) r 4) ∨ (s = 0 ∧ q = qO (qO (qO (qO 0 r 8) r 6) r 4) r 2) ∨ (s = -2 ∧ q = dO r))) (fun (h : sw_H) (q : Int) (s : Int) => (s + 2).toNat) (fun (h : sw_H) (q : Int) (s : Int) => sw_E G NH SH (d) mX6_digitsOf 5 [some (sw_i r), some (sw_i q), some (sw_i s)] [] h (sw_Qi (fun z h' => h0 = h' ∧ z = dO r))) ?_ _ _ _ ?_
  · rintro h1 q_2 s_3 ⟨rfl, jd⟩ ihh1
    try dsimp only at ihh1
    refine sx_iload_n dX6_digitsOf_5 rfl ?_
    refine sx_if_lt (tgt := 26) dX6_digitsOf_6 (by decide) (fun c4 => ?_) (fun c4 => ?_)
    ·
      refine sx_iload_n dX6_digitsOf_26 rfl ?_
      refine sx_ireturn dX6_digitsOf_27 ?_
      exact ⟨_, rfl, ⟨rfl, by omega⟩⟩
    ·
      refine sx_iload_n dX6_digitsOf_9 rfl ?_
      refine sx_bipush dX6_digitsOf_10 ⟨by decide, by decide, by decide⟩ ?_
      refine sx_imul dX6_digitsOf_12 ?_
      refine sx_iload_n dX6_digitsOf_13 rfl ?_
      refine sx_iload_n dX6_digitsOf_14 rfl ?_
      refine sx_ishr dX6_digitsOf_15 ?_
      refine sx_iconst dX6_digitsOf_16 ⟨by decide, by decide⟩ ?_
      refine sx_iand dX6_digitsOf_17 ?_
      refine sx_iadd dX6_digitsOf_18 ?_
      refine sy_top (fun v5 ev5 => ?_)
      refine sx_istore_n dX6_digitsOf_19 (by decide) ?_
      refine sx_iinc dX6_digitsOf_20 (by decide) rfl ?_
      rw [sw_w_id (by omega) (by omega)]
      refine sx_goto (tgt := 5) dX6_digitsOf_23 (by decide) ?_
      exact ihh1 _ _ _ ⟨rfl, by (rcases jd with w | w | w | w | w | w; exact Or.inr (Or.inl ⟨by omega, by rw [ev5, w.2, w.1]; rfl⟩); exact Or.inr (Or.inr (Or.inl ⟨by omega, by rw [ev5, w.2, w.1]; rfl⟩)); exact Or.inr (Or.inr (Or.inr (Or.inl ⟨by omega, by rw [ev5, w.2, w.1]; rfl⟩))); exact Or.inr (Or.inr (Or.inr (Or.inr (Or.inl ⟨by omega, by rw [ev5, w.2, w.1]; rfl⟩)))); exact Or.inr (Or.inr (Or.inr (Or.inr (Or.inr ⟨by omega, by rw [ev5, w.2, w.1]; rfl⟩)))); omega)⟩ (by exact sy_dec (by omega) (by omega))
  · exact ⟨rfl, by exact Or.inl ⟨rfl, rfl⟩⟩
set_option maxRecDepth 20000 in
set_option maxHeartbeats 4000000 in
theorem x_X6_follow {G : sw_G} (d : Nat) {h0 : sw_H} (hJ : cJ h0) (n m : Int) : sw_E G NH SH (d + 2) mX6_follow 0 [some (sw_r 182), some (sw_i n), some (sw_i m), none, none, none, none] [] h0 (sw_Qi (fun z h' => h0 = h' ∧ z = XS n m)) := by
  have hI : cK pr0 h0 h0 := cK.refl hJ
  refine sx_iload_n dX6_follow_0 rfl ?_
  refine sx_if_lt (tgt := 19) dX6_follow_1 (by decide) (fun c1 => ?_) (fun c1 => ?_)
  ·
    refine sx_iconst dX6_follow_19 ⟨by decide, by decide⟩ ?_
    refine sx_ireturn dX6_follow_20 ?_
    exact ⟨_, rfl, ⟨rfl, by first | exact XS_1 (by omega) | exact XS_2 (by omega)⟩⟩
  ·
    refine sx_iload_n dX6_follow_4 rfl ?_
    refine sx_iconst dX6_follow_5 ⟨by decide, by decide⟩ ?_
    refine sx_icmp_gt (tgt := 19) dX6_follow_6 (by decide) (fun c2 => ?_) (fun c2 => ?_)
    ·
      refine sx_iconst dX6_follow_19 ⟨by decide, by decide⟩ ?_
      refine sx_ireturn dX6_follow_20 ?_
      exact ⟨_, rfl, ⟨rfl, by first | exact XS_1 (by omega) | exact XS_2 (by omega)⟩⟩
    ·
      refine sx_iload_n dX6_follow_9 rfl ?_
      refine sx_if_lt (tgt := 19) dX6_follow_10 (by decide) (fun c3 => ?_) (fun c3 => ?_)
      ·
        refine sx_iconst dX6_follow_19 ⟨by decide, by decide⟩ ?_
        refine sx_ireturn dX6_follow_20 ?_
        exact ⟨_, rfl, ⟨rfl, by first | exact XS_1 (by omega) | exact XS_2 (by omega)⟩⟩
      ·
        refine sx_iload_n dX6_follow_13 rfl ?_
        refine sx_ldc kc_X6_80 ⟨by decide, by decide⟩ dX6_follow_14 ?_
        refine sx_icmp_le (tgt := 21) dX6_follow_16 (by decide) (fun c4 => ?_) (fun c4 => ?_)
        ·
          have hn : 0 ≤ n ∧ n ≤ 3 := ⟨by omega, by omega⟩
          have hm : 0 ≤ m ∧ m ≤ 9999999 := ⟨by omega, by omega⟩
          refine sx_iload_n dX6_follow_21 rfl ?_
          refine sx_callSi lk_X6_52 dX6_follow_22 (vs := [_]) rfl rfl (Nat.le_of_ble_eq_true rfl) (Nat.le_of_ble_eq_true rfl) rfl (x_X6_firstRow _ hI.1 _ (by omega)) (fun x6 h5 ph5 => ?_)
          obtain ⟨rfl, s_x6⟩ := ph5
          refine sx_istore_n dX6_follow_25 (by decide) ?_
          refine sx_iconst dX6_follow_26 ⟨by decide, by decide⟩ ?_
          refine sx_istore dX6_follow_27 (by decide) ?_
          refine sx_ldc kc_X6_81 ⟨by decide, by decide⟩ dX6_follow_29 ?_
          refine sx_istore dX6_follow_31 (by decide) ?_
          refine sx_loop3 (fun (h : sw_H) (q : Int) (u : Int) (t : Int) => (h0 = h) ∧ (FI n m q u t)) (fun (h : sw_H) (q : Int) (u : Int) (t : Int) => t.toNat) (fun (h : sw_H) (q : Int) (u : Int) (t : Int) => sw_E G NH SH (d + 2) mX6_follow 33 [some (sw_r 182), some (sw_i n), some (sw_i m), some (sw_i q), some (sw_i u), some (sw_i t), none] [] h (sw_Qi (fun z h' => h0 = h' ∧ z = XS n m))) ?_ _ _ _ _ ?_
          · rintro h7 q_8 u_9 t_10 ⟨rfl, jF⟩ ihh7
            try dsimp only at ihh7
            have jr := FI_rng jF
            refine sx_iload dX6_follow_33 rfl ?_
            refine sx_iconst dX6_follow_35 ⟨by decide, by decide⟩ ?_
            refine sx_icmp_lt (tgt := 113) dX6_follow_36 (by decide) (fun c11 => ?_) (fun c11 => ?_)
            ·
              refine sx_iload_n dX6_follow_113 rfl ?_
              refine sx_sipush dX6_follow_114 ⟨by decide, by decide, by decide⟩ ?_
              refine sx_icmp_le (tgt := 124) dX6_follow_117 (by decide) (fun c12 => ?_) (fun c12 => ?_)
              ·
                refine sx_iload_n dX6_follow_124 rfl ?_
                refine sx_callSi lk_X6_82 dX6_follow_125 (vs := [_]) rfl rfl (Nat.le_of_ble_eq_true rfl) (Nat.le_of_ble_eq_true rfl) rfl (x_X6_digitsOf _ hI.1 _) (fun x14 h13 ph13 => ?_)
                obtain ⟨rfl, s_x14⟩ := ph13
                refine sx_ireturn dX6_follow_128 ?_
                exact ⟨_, rfl, ⟨rfl, by first | exact s_x14.trans ((FI_end hn hm jF (by omega)).2 (by omega)) | exact (FI_end hn hm jF (by omega)).1 (by omega)⟩⟩
              ·
                refine sx_iconst dX6_follow_120 ⟨by decide, by decide⟩ ?_
                refine sx_goto (tgt := 128) dX6_follow_121 (by decide) ?_
                refine sx_ireturn dX6_follow_128 ?_
                exact ⟨_, rfl, ⟨rfl, by first | exact s_x14.trans ((FI_end hn hm jF (by omega)).2 (by omega)) | exact (FI_end hn hm jF (by omega)).1 (by omega)⟩⟩
            ·
              refine sx_iload_n dX6_follow_39 rfl ?_
              refine sx_iload dX6_follow_40 rfl ?_
              refine sx_idiv dX6_follow_42 (by first | omega | (rw [Int.tmod_eq_emod_of_nonneg (by omega)]; omega) | (rw [Int.tdiv_eq_ediv_of_nonneg (by omega)]; omega)) ?_
              refine sx_bipush dX6_follow_43 ⟨by decide, by decide, by decide⟩ ?_
              refine sx_irem dX6_follow_45 (by first | omega | (rw [Int.tmod_eq_emod_of_nonneg (by omega)]; omega) | (rw [Int.tdiv_eq_ediv_of_nonneg (by omega)]; omega)) ?_
              refine sy_top (fun v15 ev15 => ?_)
              refine sx_istore dX6_follow_46 (by decide) ?_
              refine sx_iload dX6_follow_48 rfl ?_
              refine sx_if_ne (tgt := 58) dX6_follow_50 (by decide) (fun c16 => ?_) (fun c16 => ?_)
              ·
                refine sx_iconst dX6_follow_58 ⟨by decide, by decide⟩ ?_
                refine sx_goto (tgt := 63) dX6_follow_59 (by decide) ?_
                refine sx_istore dX6_follow_63 (by decide) ?_
                refine sx_iload dX6_follow_65 rfl ?_
                refine sx_if_eq (tgt := 96) dX6_follow_67 (by decide) (fun c17 => ?_) (fun c17 => ?_)
                ·
                  exact absurd c17 (by decide)
                ·
                  refine sx_iload dX6_follow_70 rfl ?_
                  refine sx_iconst dX6_follow_72 ⟨by decide, by decide⟩ ?_
                  refine sx_icmp_lt (tgt := 83) dX6_follow_73 (by decide) (fun c18 => ?_) (fun c18 => ?_)
                  ·
                    refine sx_iconst dX6_follow_83 ⟨by decide, by decide⟩ ?_
                    refine sx_goto (tgt := 95) dX6_follow_84 (by decide) ?_
                    refine sx_istore_n dX6_follow_95 (by decide) ?_
                    refine sx_iload_n dX6_follow_96 rfl ?_
                    refine sx_iconst dX6_follow_97 ⟨by decide, by decide⟩ ?_
                    refine sx_icmp_ne (tgt := 103) dX6_follow_98 (by decide) (fun c19 => ?_) (fun c19 => ?_)
                    ·
                      exact absurd c19 (by decide)
                    ·
                      refine sx_iconst dX6_follow_101 ⟨by decide, by decide⟩ ?_
                      refine sx_ireturn dX6_follow_102 ?_
                      exact ⟨_, rfl, ⟨rfl, by first | exact fS.1 (by omega) | exact FI_bad hn hm jF (by omega) (by rw [← ev15]; omega) (by rw [← ev15]; omega) | (exfalso; omega)⟩⟩
                  ·
                    refine sx_iload dX6_follow_76 rfl ?_
                    refine sx_bipush dX6_follow_78 ⟨by decide, by decide, by decide⟩ ?_
                    refine sx_icmp_le (tgt := 87) dX6_follow_80 (by decide) (fun c20 => ?_) (fun c20 => ?_)
                    ·
                      refine sx_iload_n dX6_follow_87 rfl ?_
                      refine sx_iload dX6_follow_88 rfl ?_
                      refine sx_iconst dX6_follow_90 ⟨by decide, by decide⟩ ?_
                      refine sx_isub dX6_follow_91 ?_
                      refine sy_topw (by first | omega | (rw [Int.tmod_eq_emod_of_nonneg (by omega)]; omega) | (rw [Int.tdiv_eq_ediv_of_nonneg (by omega)]; omega)) ?_
                      refine sx_callSi lk_X6_68 dX6_follow_92 (vs := [_, _]) rfl rfl (Nat.le_of_ble_eq_true rfl) (Nat.le_of_ble_eq_true rfl) rfl (x_X6_shuffle _ hI.1 _ _ (by omega) (by omega)) (fun x22 h21 ph21 => ?_)
                      obtain ⟨rfl, s_x22⟩ := ph21
                      refine sx_istore_n dX6_follow_95 (by decide) ?_
                      have fS := FI_sh hn hm jF (by omega) ev15 (by omega) (by omega) s_x22
                      refine sx_iload_n dX6_follow_96 rfl ?_
                      refine sx_iconst dX6_follow_97 ⟨by decide, by decide⟩ ?_
                      refine sx_icmp_ne (tgt := 103) dX6_follow_98 (by decide) (fun c23 => ?_) (fun c23 => ?_)
                      ·
                        have et10 : t_10.tdiv 10 = t_10 / 10 := Int.tdiv_eq_ediv_of_nonneg (by omega)
                        refine sx_iload dX6_follow_103 rfl ?_
                        refine sx_bipush dX6_follow_105 ⟨by decide, by decide, by decide⟩ ?_
                        refine sx_idiv dX6_follow_107 (by first | omega | (rw [Int.tmod_eq_emod_of_nonneg (by omega)]; omega) | (rw [Int.tdiv_eq_ediv_of_nonneg (by omega)]; omega)) ?_
                        refine sy_topw (by first | omega | (rw [Int.tmod_eq_emod_of_nonneg (by omega)]; omega) | (rw [Int.tdiv_eq_ediv_of_nonneg (by omega)]; omega)) ?_
                        refine sy_top (fun v24 ev24 => ?_)
                        refine sx_istore dX6_follow_108 (by decide) ?_
                        subst ev24
                        refine sx_goto (tgt := 33) dX6_follow_110 (by decide) ?_
                        refine sx_kill 6 ?_
                        exact ihh7 _ _ _ _ ⟨rfl, by first | exact fS.2 (by omega) | exact FI_zero hm jF (by omega) (by omega) (by rw [← ev15]; omega)⟩ (by exact sy_dec (by first | omega | (rw [Int.tmod_eq_emod_of_nonneg (by omega)]; omega) | (rw [Int.tdiv_eq_ediv_of_nonneg (by omega)]; omega)) (by first | omega | (rw [Int.tmod_eq_emod_of_nonneg (by omega)]; omega) | (rw [Int.tdiv_eq_ediv_of_nonneg (by omega)]; omega)))
                      ·
                        refine sx_iconst dX6_follow_101 ⟨by decide, by decide⟩ ?_
                        refine sx_ireturn dX6_follow_102 ?_
                        exact ⟨_, rfl, ⟨rfl, by first | exact fS.1 (by omega) | exact FI_bad hn hm jF (by omega) (by rw [← ev15]; omega) (by rw [← ev15]; omega) | (exfalso; omega)⟩⟩
                    ·
                      refine sx_iconst dX6_follow_83 ⟨by decide, by decide⟩ ?_
                      refine sx_goto (tgt := 95) dX6_follow_84 (by decide) ?_
                      refine sx_istore_n dX6_follow_95 (by decide) ?_
                      refine sx_iload_n dX6_follow_96 rfl ?_
                      refine sx_iconst dX6_follow_97 ⟨by decide, by decide⟩ ?_
                      refine sx_icmp_ne (tgt := 103) dX6_follow_98 (by decide) (fun c25 => ?_) (fun c25 => ?_)
                      ·
                        exact absurd c25 (by decide)
                      ·
                        refine sx_iconst dX6_follow_101 ⟨by decide, by decide⟩ ?_
                        refine sx_ireturn dX6_follow_102 ?_
                        exact ⟨_, rfl, ⟨rfl, by first | exact fS.1 (by omega) | exact FI_bad hn hm jF (by omega) (by rw [← ev15]; omega) (by rw [← ev15]; omega) | (exfalso; omega)⟩⟩
              ·
                refine sx_iload dX6_follow_53 rfl ?_
                refine sx_if_eq (tgt := 62) dX6_follow_55 (by decide) (fun c26 => ?_) (fun c26 => ?_)
                ·
                  refine sx_iconst dX6_follow_62 ⟨by decide, by decide⟩ ?_
                  refine sx_istore dX6_follow_63 (by decide) ?_
                  refine sx_iload dX6_follow_65 rfl ?_
                  refine sx_if_eq (tgt := 96) dX6_follow_67 (by decide) (fun c27 => ?_) (fun c27 => ?_)
                  ·
                    refine sx_iload_n dX6_follow_96 rfl ?_
                    refine sx_iconst dX6_follow_97 ⟨by decide, by decide⟩ ?_
                    refine sx_icmp_ne (tgt := 103) dX6_follow_98 (by decide) (fun c28 => ?_) (fun c28 => ?_)
                    ·
                      have et10 : t_10.tdiv 10 = t_10 / 10 := Int.tdiv_eq_ediv_of_nonneg (by omega)
                      refine sx_iload dX6_follow_103 rfl ?_
                      refine sx_bipush dX6_follow_105 ⟨by decide, by decide, by decide⟩ ?_
                      refine sx_idiv dX6_follow_107 (by first | omega | (rw [Int.tmod_eq_emod_of_nonneg (by omega)]; omega) | (rw [Int.tdiv_eq_ediv_of_nonneg (by omega)]; omega)) ?_
                      refine sy_topw (by first | omega | (rw [Int.tmod_eq_emod_of_nonneg (by omega)]; omega) | (rw [Int.tdiv_eq_ediv_of_nonneg (by omega)]; omega)) ?_
                      refine sy_top (fun v29 ev29 => ?_)
                      refine sx_istore dX6_follow_108 (by decide) ?_
                      subst ev29
                      refine sx_goto (tgt := 33) dX6_follow_110 (by decide) ?_
                      refine sx_kill 6 ?_
                      exact ihh7 _ _ _ _ ⟨rfl, by first | exact fS.2 (by omega) | exact FI_zero hm jF (by omega) (by omega) (by rw [← ev15]; omega)⟩ (by exact sy_dec (by first | omega | (rw [Int.tmod_eq_emod_of_nonneg (by omega)]; omega) | (rw [Int.tdiv_eq_ediv_of_nonneg (by omega)]; omega)) (by first | omega | (rw [Int.tmod_eq_emod_of_nonneg (by omega)]; omega) | (rw [Int.tdiv_eq_ediv_of_nonneg (by omega)]; omega)))
                    ·
                      refine sx_iconst dX6_follow_101 ⟨by decide, by decide⟩ ?_
                      refine sx_ireturn dX6_follow_102 ?_
                      exact ⟨_, rfl, ⟨rfl, by first | exact fS.1 (by omega) | exact FI_bad hn hm jF (by omega) (by rw [← ev15]; omega) (by rw [← ev15]; omega) | (exfalso; omega)⟩⟩
                  ·
                    exact absurd c27 (by decide)
                ·
                  refine sx_iconst dX6_follow_58 ⟨by decide, by decide⟩ ?_
                  refine sx_goto (tgt := 63) dX6_follow_59 (by decide) ?_
                  refine sx_istore dX6_follow_63 (by decide) ?_
                  refine sx_iload dX6_follow_65 rfl ?_
                  refine sx_if_eq (tgt := 96) dX6_follow_67 (by decide) (fun c30 => ?_) (fun c30 => ?_)
                  ·
                    exact absurd c30 (by decide)
                  ·
                    refine sx_iload dX6_follow_70 rfl ?_
                    refine sx_iconst dX6_follow_72 ⟨by decide, by decide⟩ ?_
                    refine sx_icmp_lt (tgt := 83) dX6_follow_73 (by decide) (fun c31 => ?_) (fun c31 => ?_)
                    ·
                      refine sx_iconst dX6_follow_83 ⟨by decide, by decide⟩ ?_
                      refine sx_goto (tgt := 95) dX6_follow_84 (by decide) ?_
                      refine sx_istore_n dX6_follow_95 (by decide) ?_
                      refine sx_iload_n dX6_follow_96 rfl ?_
                      refine sx_iconst dX6_follow_97 ⟨by decide, by decide⟩ ?_
                      refine sx_icmp_ne (tgt := 103) dX6_follow_98 (by decide) (fun c32 => ?_) (fun c32 => ?_)
                      ·
                        exact absurd c32 (by decide)
                      ·
                        refine sx_iconst dX6_follow_101 ⟨by decide, by decide⟩ ?_
                        refine sx_ireturn dX6_follow_102 ?_
                        exact ⟨_, rfl, ⟨rfl, by first | exact fS.1 (by omega) | exact FI_bad hn hm jF (by omega) (by rw [← ev15]; omega) (by rw [← ev15]; omega) | (exfalso; omega)⟩⟩
                    ·
                      refine sx_iload dX6_follow_76 rfl ?_
                      refine sx_bipush dX6_follow_78 ⟨by decide, by decide, by decide⟩ ?_
                      refine sx_icmp_le (tgt := 87) dX6_follow_80 (by decide) (fun c33 => ?_) (fun c33 => ?_)
                      ·
                        refine sx_iload_n dX6_follow_87 rfl ?_
                        refine sx_iload dX6_follow_88 rfl ?_
                        refine sx_iconst dX6_follow_90 ⟨by decide, by decide⟩ ?_
                        refine sx_isub dX6_follow_91 ?_
                        refine sy_topw (by first | omega | (rw [Int.tmod_eq_emod_of_nonneg (by omega)]; omega) | (rw [Int.tdiv_eq_ediv_of_nonneg (by omega)]; omega)) ?_
                        refine sx_callSi lk_X6_68 dX6_follow_92 (vs := [_, _]) rfl rfl (Nat.le_of_ble_eq_true rfl) (Nat.le_of_ble_eq_true rfl) rfl (x_X6_shuffle _ hI.1 _ _ (by omega) (by omega)) (fun x35 h34 ph34 => ?_)
                        obtain ⟨rfl, s_x35⟩ := ph34
                        refine sx_istore_n dX6_follow_95 (by decide) ?_
                        have fS := FI_sh hn hm jF (by omega) ev15 (by omega) (by omega) s_x35
                        refine sx_iload_n dX6_follow_96 rfl ?_
                        refine sx_iconst dX6_follow_97 ⟨by decide, by decide⟩ ?_
                        refine sx_icmp_ne (tgt := 103) dX6_follow_98 (by decide) (fun c36 => ?_) (fun c36 => ?_)
                        ·
                          have et10 : t_10.tdiv 10 = t_10 / 10 := Int.tdiv_eq_ediv_of_nonneg (by omega)
                          refine sx_iload dX6_follow_103 rfl ?_
                          refine sx_bipush dX6_follow_105 ⟨by decide, by decide, by decide⟩ ?_
                          refine sx_idiv dX6_follow_107 (by first | omega | (rw [Int.tmod_eq_emod_of_nonneg (by omega)]; omega) | (rw [Int.tdiv_eq_ediv_of_nonneg (by omega)]; omega)) ?_
                          refine sy_topw (by first | omega | (rw [Int.tmod_eq_emod_of_nonneg (by omega)]; omega) | (rw [Int.tdiv_eq_ediv_of_nonneg (by omega)]; omega)) ?_
                          refine sy_top (fun v37 ev37 => ?_)
                          refine sx_istore dX6_follow_108 (by decide) ?_
                          subst ev37
                          refine sx_goto (tgt := 33) dX6_follow_110 (by decide) ?_
                          refine sx_kill 6 ?_
                          exact ihh7 _ _ _ _ ⟨rfl, by first | exact fS.2 (by omega) | exact FI_zero hm jF (by omega) (by omega) (by rw [← ev15]; omega)⟩ (by exact sy_dec (by first | omega | (rw [Int.tmod_eq_emod_of_nonneg (by omega)]; omega) | (rw [Int.tdiv_eq_ediv_of_nonneg (by omega)]; omega)) (by first | omega | (rw [Int.tmod_eq_emod_of_nonneg (by omega)]; omega) | (rw [Int.tdiv_eq_ediv_of_nonneg (by omega)]; omega)))
                        ·
                          refine sx_iconst dX6_follow_101 ⟨by decide, by decide⟩ ?_
                          refine sx_ireturn dX6_follow_102 ?_
                          exact ⟨_, rfl, ⟨rfl, by first | exact fS.1 (by omega) | exact FI_bad hn hm jF (by omega) (by rw [← ev15]; omega) (by rw [← ev15]; omega) | (exfalso; omega)⟩⟩
                      ·
                        refine sx_iconst dX6_follow_83 ⟨by decide, by decide⟩ ?_
                        refine sx_goto (tgt := 95) dX6_follow_84 (by decide) ?_
                        refine sx_istore_n dX6_follow_95 (by decide) ?_
                        refine sx_iload_n dX6_follow_96 rfl ?_
                        refine sx_iconst dX6_follow_97 ⟨by decide, by decide⟩ ?_
                        refine sx_icmp_ne (tgt := 103) dX6_follow_98 (by decide) (fun c38 => ?_) (fun c38 => ?_)
                        ·
                          exact absurd c38 (by decide)
                        ·
                          refine sx_iconst dX6_follow_101 ⟨by decide, by decide⟩ ?_
                          refine sx_ireturn dX6_follow_102 ?_
                          exact ⟨_, rfl, ⟨rfl, by first | exact fS.1 (by omega) | exact FI_bad hn hm jF (by omega) (by rw [← ev15]; omega) (by rw [← ev15]; omega) | (exfalso; omega)⟩⟩
          · exact ⟨rfl, by (rw [s_x6]; exact FI_init hn)⟩
        ·
          refine sx_iconst dX6_follow_19 ⟨by decide, by decide⟩ ?_
          refine sx_ireturn dX6_follow_20 ?_
          exact ⟨_, rfl, ⟨rfl, by first | exact XS_1 (by omega) | exact XS_2 (by omega)⟩⟩
set_option maxRecDepth 20000 in
set_option maxHeartbeats 4000000 in
theorem x_X11_shuffled {G : sw_G} (d : Nat) {h0 : sw_H} (hJ : cJ h0) (y1 y2 : Int)  : sw_E G NH SH (d + 3) mX11_shuffled 0 [some (sw_r 0), some (sw_i y1), some (sw_i y2)] [] h0 (sw_Qi (fun z h' => cK pr1 h0 h' ∧ z = XS y1 y2)) := by
  have hI : cK pr1 h0 h0 := cK.refl hJ
  refine sx_aload_n dX11_shuffled_0 rfl ?_
  refine sx_getS (k := 10) (t := 182) cl_11 fl_X11_61 dX11_shuffled_1 s_0 (by decide) rfl (by decide) ?_
  refine sx_iload_n dX11_shuffled_4 rfl ?_
  refine sx_iload_n dX11_shuffled_5 rfl ?_
  refine sx_callVi lk_X11_234 cl_6 s_182 (by decide) dX11_shuffled_6 (vs := [_, _]) rfl rfl (Nat.le_of_ble_eq_true rfl) (Nat.le_of_ble_eq_true rfl) rfl (x_X6_follow _ hI.1 _ _) (fun x2 h1 ph1 => ?_)
  obtain ⟨rfl, e1⟩ := ph1
  refine sx_ireturn dX11_shuffled_9 ?_
  exact ⟨_, rfl, hI, e1⟩

-- ===== the start: what the tables and the start say, as sw_Gf =====
theorem wi_0 : Cond.instantiable "StackWords$Code" 16 ∈ gtb := gtb_mem (tm_1 (List.mem_of_getElem? (i := 31) (by decide +kernel))) (by decide +kernel)
theorem wi_1 : Cond.instantiable "StackWords$Costs" 4 ∈ gtb := gtb_mem (tm_2 (List.mem_of_getElem? (i := 146) (by decide +kernel))) (by decide +kernel)
theorem wi_2 : Cond.instantiable "StackWords$Formula" 5 ∈ gtb := gtb_mem (tm_2 (List.mem_of_getElem? (i := 64) (by decide +kernel))) (by decide +kernel)
theorem wi_3 : Cond.instantiable "StackWords$Reader" 10 ∈ gtb := gtb_mem (tm_1 (List.mem_of_getElem? (i := 197) (by decide +kernel))) (by decide +kernel)
theorem wi_4 : Cond.instantiable "StackWords$Runner" 6 ∈ gtb := gtb_mem (tm_1 (List.mem_of_getElem? (i := 143) (by decide +kernel))) (by decide +kernel)
theorem wi_5 : Cond.instantiable "StackWords$Scanner" 9 ∈ gtb := gtb_mem (tm_1 (List.mem_of_getElem? (i := 203) (by decide +kernel))) (by decide +kernel)
theorem wi_6 : Cond.instantiable "StackWords$Shuffler" 9 ∈ gtb := gtb_mem (tm_2 (List.mem_of_getElem? (i := 165) (by decide +kernel))) (by decide +kernel)
theorem wi_7 : Cond.instantiable "StackWords$Sightings" 12 ∈ gtb := gtb_mem (tm_2 (List.mem_of_getElem? (i := 201) (by decide +kernel))) (by decide +kernel)
theorem wi_8 : Cond.instantiable "StackWords$State" 6 ∈ gtb := gtb_mem (tm_1 (List.mem_of_getElem? (i := 149) (by decide +kernel))) (by decide +kernel)
theorem wi_9 : Cond.instantiable "StackWords$Timeline" 4 ∈ gtb := gtb_mem (tm_2 (List.mem_of_getElem? (i := 120) (by decide +kernel))) (by decide +kernel)
theorem wi_10 : Cond.instantiable "StackWords$Tracer" 14 ∈ gtb := gtb_mem (tm_2 (List.mem_of_getElem? (i := 8) (by decide +kernel))) (by decide +kernel)
theorem wi_11 : Cond.instantiable "StackWords" 15 ∈ gtb := gtb_mem (tm_1 (List.mem_of_getElem? (i := 23) (by decide +kernel))) (by decide +kernel)
theorem wi_12 : Cond.instantiable "StackWordsModel" 103 ∈ gtb := gtb_mem (tm_6 (List.mem_of_getElem? (i := 169) (by decide +kernel))) (by decide +kernel)
theorem wi_cl0 : Cond.classLink "StackWordsLaw" 7 "StackWords" ∈ gtb := gtb_mem (tm_1 (List.mem_of_getElem? (i := 22) (by decide +kernel))) (by decide +kernel)
theorem wi_cl1 : Cond.classLink "StackWordsLaw" 10 "StackWordsModel" ∈ gtb := gtb_mem (tm_6 (List.mem_of_getElem? (i := 168) (by decide +kernel))) (by decide +kernel)
theorem wi_in0 : Cond.initialized "StackWords" ∈ gtb := gtb_mem (tm_1 (List.mem_of_getElem? (i := 1) (by decide +kernel))) (by decide +kernel)
theorem wi_in1 : Cond.initialized "StackWordsModel" ∈ gtb := gtb_mem (tm_1 (List.mem_of_getElem? (i := 13) (by decide +kernel))) (by decide +kernel)
theorem wi_ml0 : Cond.methodLink "StackWordsLaw" 9 ⟨"StackWords", "<init>", "()V"⟩ ∈ gtb := gtb_mem (tm_1 (List.mem_of_getElem? (i := 24) (by decide +kernel))) (by decide +kernel)
theorem wi_im0 : Cond.instanceMethod ⟨"StackWords", "<init>", "()V"⟩ ∈ gtb := gtb_mem (tm_1 (List.mem_of_getElem? (i := 25) (by decide +kernel))) (by decide +kernel)
theorem wi_co0 : Cond.code ⟨"StackWords", "<init>", "()V"⟩ cX11_init 2 none ∈ gtb := gtb_mem (tm_1 (List.mem_of_getElem? (i := 26) (by decide +kernel))) (by decide +kernel)
theorem li_L0 : sw_LI "StackWordsLaw" 9 mX11_init "StackWords" := ⟨Or.inl wi_ml0, wi_im0, wi_in0, wi_co0, ⟨by decide +kernel, by decide +kernel, by decide⟩, rfl, rfl⟩
theorem wi_ml1 : Cond.methodLink "StackWordsLaw" 12 ⟨"StackWordsModel", "<init>", "()V"⟩ ∈ gtb := gtb_mem (tm_6 (List.mem_of_getElem? (i := 170) (by decide +kernel))) (by decide +kernel)
theorem wi_im1 : Cond.instanceMethod ⟨"StackWordsModel", "<init>", "()V"⟩ ∈ gtb := gtb_mem (tm_6 (List.mem_of_getElem? (i := 171) (by decide +kernel))) (by decide +kernel)
theorem wi_co1 : Cond.code ⟨"StackWordsModel", "<init>", "()V"⟩ cX12_init 1 none ∈ gtb := gtb_mem (tm_6 (List.mem_of_getElem? (i := 172) (by decide +kernel))) (by decide +kernel)
theorem li_L1 : sw_LI "StackWordsLaw" 12 mX12_init "StackWords" := ⟨Or.inl wi_ml1, wi_im1, wi_in1, wi_co1, ⟨by decide +kernel, by decide +kernel, by decide⟩, rfl, rfl⟩
theorem wi_st0 : Cond.laysStatic "StackWords" "OFF" "[I" ∈ lw_tbl := tm_4 (List.mem_of_getElem? (i := 63) (by decide +kernel))
theorem wi_st1 : Cond.laysStatic "StackWords" "ON" "[I" ∈ lw_tbl := tm_4 (List.mem_of_getElem? (i := 65) (by decide +kernel))
theorem wi_st2 : Cond.laysStatic "StackWords" "SHUFFLED" "[I" ∈ lw_tbl := tm_4 (List.mem_of_getElem? (i := 233) (by decide +kernel))
theorem wi_cs : Cond.laysStatic "java/lang/String" "COMPACT_STRINGS" "Z" ∈ lw_tbl := tm_3 (List.mem_of_getElem? (i := 116) (by decide +kernel))
theorem wi_fo : Cond.laysStatic "jdk/internal/util/Preconditions" "SIOOBE_FORMATTER" "Ljava/util/function/BiFunction;" ∈ lw_tbl := tm_3 (List.mem_of_getElem? (i := 132) (by decide +kernel))
theorem wi_inS : Cond.initialized "java/lang/String" ∈ lw_tbl := tm_1 (List.mem_of_getElem? (i := 15) (by decide +kernel))
theorem wi_inP : Cond.initialized "jdk/internal/util/Preconditions" ∈ lw_tbl := tm_1 (List.mem_of_getElem? (i := 17) (by decide +kernel))
theorem wi_ov : Cond.arrayOver (.object "StackWords$State") ∈ lw_tbl := tm_2 (List.mem_of_getElem? (i := 126) (by decide +kernel))
theorem wi_s87 : Cond.stringRef "StackWords$Scanner" 87 "dup  drop swap over rot  nip  tuck push pop  add  sub  mul  neg  less same if   else then timesnext word takesflipsdraw or   and  not  form kind " ∈ lw_tbl := tm_3 (List.mem_of_getElem? (i := 106) (by decide +kernel))
theorem wi_s73 : Cond.stringRef "StackWords$Scanner" 73 ";()<>=+-*/%" ∈ lw_tbl := tm_3 (List.mem_of_getElem? (i := 163) (by decide +kernel))
theorem wi_a_int : Cond.arrayClass .int ∈ lw_tbl := tm_1 (List.mem_of_getElem? (i := 141) (by decide +kernel))
theorem wi_a_byte : Cond.arrayClass .byte ∈ lw_tbl := tm_2 (List.mem_of_getElem? (i := 6) (by decide +kernel))
theorem wi_a_boolean : Cond.arrayClass .boolean ∈ lw_tbl := tm_3 (List.mem_of_getElem? (i := 11) (by decide +kernel))
theorem wi_a_long : Cond.arrayClass .long ∈ lw_tbl := tm_2 (List.mem_of_getElem? (i := 118) (by decide +kernel))
theorem gl {w : Cond} (h : w ∈ gtb) : w ∈ lw_tbl := (List.mem_filter.mp h).1
theorem st_cls {s : State} {args : Array Value} (hts : ∀ w ∈ lw_tbl, w.before args s = true) : ∃ D : va_G, ∀ (c : Nat) (q : vw_C), vwCl[c]? = some q → u_Kn s q.1 q.2.1 q.2.2 (D.1 c) (D.2 c) := by
  obtain ⟨a0, b0, h0⟩ := u_known (C := RX0) (T := TX0) (N := 16) (n := 16) hts (fun w q => gl (cl_0.2.1 w q)) (hts _ (gl wi_0))
  obtain ⟨a1, b1, h1⟩ := u_known (C := RX1) (T := TX1) (N := 4) (n := 4) hts (fun w q => gl (cl_1.2.1 w q)) (hts _ (gl wi_1))
  obtain ⟨a2, b2, h2⟩ := u_known (C := RX2) (T := TX2) (N := 5) (n := 5) hts (fun w q => gl (cl_2.2.1 w q)) (hts _ (gl wi_2))
  obtain ⟨a3, b3, h3⟩ := u_known (C := RX3) (T := TX3) (N := 10) (n := 10) hts (fun w q => gl (cl_3.2.1 w q)) (hts _ (gl wi_3))
  obtain ⟨a4, b4, h4⟩ := u_known (C := RX4) (T := TX4) (N := 6) (n := 6) hts (fun w q => gl (cl_4.2.1 w q)) (hts _ (gl wi_4))
  obtain ⟨a5, b5, h5⟩ := u_known (C := RX5) (T := TX5) (N := 9) (n := 9) hts (fun w q => gl (cl_5.2.1 w q)) (hts _ (gl wi_5))
  obtain ⟨a6, b6, h6⟩ := u_known (C := RX6) (T := TX6) (N := 9) (n := 9) hts (fun w q => gl (cl_6.2.1 w q)) (hts _ (gl wi_6))
  obtain ⟨a7, b7, h7⟩ := u_known (C := RX7) (T := TX7) (N := 12) (n := 12) hts (fun w q => gl (cl_7.2.1 w q)) (hts _ (gl wi_7))
  obtain ⟨a8, b8, h8⟩ := u_known (C := RX8) (T := TX8) (N := 6) (n := 6) hts (fun w q => gl (cl_8.2.1 w q)) (hts _ (gl wi_8))
  obtain ⟨a9, b9, h9⟩ := u_known (C := RX9) (T := TX9) (N := 4) (n := 4) hts (fun w q => gl (cl_9.2.1 w q)) (hts _ (gl wi_9))
  obtain ⟨a10, b10, h10⟩ := u_known (C := RX10) (T := TX10) (N := 14) (n := 14) hts (fun w q => gl (cl_10.2.1 w q)) (hts _ (gl wi_10))
  obtain ⟨a11, b11, h11⟩ := u_known (C := RX11) (T := TX11) (N := 15) (n := 15) hts (fun w q => gl (cl_11.2.1 w q)) (hts _ (gl wi_11))
  obtain ⟨a12, b12, h12⟩ := u_known (C := RX12) (T := TX12) (N := 103) (n := 103) hts (fun w q => gl (cl_12.2.1 w q)) (hts _ (gl wi_12))
  refine ⟨(fun k => if k = 0 then a0 else if k = 1 then a1 else if k = 2 then a2 else if k = 3 then a3 else if k = 4 then a4 else if k = 5 then a5 else if k = 6 then a6 else if k = 7 then a7 else if k = 8 then a8 else if k = 9 then a9 else if k = 10 then a10 else if k = 11 then a11 else a12, fun k => if k = 0 then b0 else if k = 1 then b1 else if k = 2 then b2 else if k = 3 then b3 else if k = 4 then b4 else if k = 5 then b5 else if k = 6 then b6 else if k = 7 then b7 else if k = 8 then b8 else if k = 9 then b9 else if k = 10 then b10 else if k = 11 then b11 else b12), fun c q hq => ?_⟩
  match c, hq with
  | 0, hq => cases hq; exact h0
  | 1, hq => cases hq; exact h1
  | 2, hq => cases hq; exact h2
  | 3, hq => cases hq; exact h3
  | 4, hq => cases hq; exact h4
  | 5, hq => cases hq; exact h5
  | 6, hq => cases hq; exact h6
  | 7, hq => cases hq; exact h7
  | 8, hq => cases hq; exact h8
  | 9, hq => cases hq; exact h9
  | 10, hq => cases hq; exact h10
  | 11, hq => cases hq; exact h11
  | 12, hq => cases hq; exact h12
  | c + 13, hq => simp [vwCl] at hq
theorem st_arr {ty : FieldType} {s : State} {args : Array Value} (h : (Cond.arrayClass ty).before args s = true) (hRA : ∀ cA : ClassId, s.vm.findClass ("[" ++ ty.toString) = some cA → va_RA s cA ty) : ∃ cA : ClassId, ArrOfT s cA ty ∧ va_RA s cA ty := by
  obtain ⟨c, k, comp, h1, h2, h3⟩ := Cond.arrayClass_spec (args := args) (first := s) (o := none) (s := s) (idx := []) h
  exact ⟨c, fun n z => ⟨fun k h => (by cases h), k, h2, comp, h3⟩, hRA c h1⟩
theorem st_tys {s : State} {args : Array Value} (hts : ∀ w ∈ lw_tbl, w.before args s = true) : ∃ t : Nat → ClassId, ∀ (k : Nat) (q : ClassId × FieldType), [(t 0, FieldType.int), (t 1, .byte), (t 2, .boolean), (t 3, .long), (t 4, .object "StackWords$State")][k]? = some q → ArrOfT s q.1 q.2 ∧ va_RA s q.1 q.2 := by
  obtain ⟨a0, h0⟩ := st_arr (hts _ wi_a_int) (fun _ h => h)
  obtain ⟨a1, h1⟩ := st_arr (hts _ wi_a_byte) (fun _ h => h)
  obtain ⟨a2, h2⟩ := st_arr (hts _ wi_a_boolean) (fun _ h => h)
  obtain ⟨a3, h3⟩ := st_arr (hts _ wi_a_long) (fun _ h => h)
  obtain ⟨comp, c, k, g1, g2, g3, g4, g5⟩ := Cond.arrayOver_spec (args := args) (first := s) (o := none) (s := s) (idx := []) (hts _ wi_ov)
  refine ⟨fun k => if k = 0 then a0 else if k = 1 then a1 else if k = 2 then a2 else if k = 3 then a3 else c, fun k q hq => ?_⟩
  match k, hq with
  | 0, hq => cases hq; exact h0
  | 1, hq => cases hq; exact h1
  | 2, hq => cases hq; exact h2
  | 3, hq => cases hq; exact h3
  | 4, hq => cases hq; exact ⟨fun n z => ⟨fun k h => (by cases h), _, g3, comp, g4⟩, ⟨_, comp, g3, g4, g1, g5⟩⟩
  | k + 5, hq => simp at hq
theorem X_of {args : Array Value} {s : State} {tm : Term} {N : Nat} {xs : Nat → Int32} (hN : N < 2 ^ 31) (harr : (Cond.arrayOf tm .int).before args s = true) (hlen : (Cond.eq (.length tm) (.int (Int32.ofNat N))).before args s = true) (hel : ∀ j : Nat, j < N → (Cond.eq (.elem tm (.int (Int32.ofNat j))) (.int (xs j))).before args s = true) : ∃ t : Nat, tm.eval args s none [] s = some (.ref t) ∧ va_X t N xs s s.heap ∧ t < s.heap.size := by
  obtain ⟨t, ht, cell, h1, h2, h3, h4, h5, h6, -⟩ := va_Tof (f := fun j => .int (xs j)) (A := fun _ => False) hN harr (va_eqt hlen) (fun j hj => va_eqt (hel j hj)) (fun _ _ => id)
  have hv := va_eqt hlen
  obtain ⟨t2, cell2, ht2, hat, -⟩ := Term.length_spec hv
  cases ht.symm.trans ht2
  obtain ⟨hc, -, -, -⟩ := State.arrayAt?_spec hat
  cases h1.symm.trans hc
  have hsz : cell.slots.size < 2 ^ 31 := by
    simp only [Term.eval, ht, hat, Option.bind_eq_bind, Option.bind_some] at hv
    by_cases hlt : cell.slots.size < 2147483648
    · exact hlt
    · simp [hlt] at hv
  have e : cell.slots.size = N := by
    have a := Int32.toInt_ofNat_small hsz
    have b := Int32.toInt_ofNat_small hN
    have c : (Int32.ofNat cell.slots.size).toInt = (Int32.ofNat N).toInt := congrArg Int32.toInt h5
    rw [a, b] at c
    exact_mod_cast c
  exact ⟨t, ht, ⟨cell, h1, h2, h3, e, h6⟩, (Array.getElem?_eq_some_iff.mp h1).1⟩
abbrev FL : List Cond := flatC (Jvm.Cond.and given_1 narrow_1)
theorem fs_a0 : FL[10]? = some (Cond.arrayOf (.static "StackWords" "OFF" "[I") .int) := by decide +kernel
theorem fs_l0 : FL[11]? = some (Cond.eq (.length (.static "StackWords" "OFF" "[I")) (.int (Int32.ofNat 15))) := by decide +kernel
theorem fs_e0 : ∀ j : Nat, j < 15 → FL[12 + j]? = some (Cond.eq (.elem (.static "StackWords" "OFF" "[I") (.int (Int32.ofNat j))) (.int (Int32.ofInt (sw_sd 0 j)))) := by decide +kernel
theorem fs_a1 : FL[28]? = some (Cond.arrayOf (.static "StackWords" "ON" "[I") .int) := by decide +kernel
theorem fs_l1 : FL[29]? = some (Cond.eq (.length (.static "StackWords" "ON" "[I")) (.int (Int32.ofNat 15))) := by decide +kernel
theorem fs_e1 : ∀ j : Nat, j < 15 → FL[30 + j]? = some (Cond.eq (.elem (.static "StackWords" "ON" "[I") (.int (Int32.ofNat j))) (.int (Int32.ofInt (sw_sd 1 j)))) := by decide +kernel
theorem fs_a2 : FL[46]? = some (Cond.arrayOf (.static "StackWords" "SHUFFLED" "[I") .int) := by decide +kernel
theorem fs_l2 : FL[47]? = some (Cond.eq (.length (.static "StackWords" "SHUFFLED" "[I")) (.int (Int32.ofNat 21))) := by decide +kernel
theorem fs_e2 : ∀ j : Nat, j < 21 → FL[48 + j]? = some (Cond.eq (.elem (.static "StackWords" "SHUFFLED" "[I") (.int (Int32.ofNat j))) (.int (Int32.ofInt (sw_sd 2 j)))) := by decide +kernel
theorem fs_cs : FL[4]? = some (Cond.eq (.static "java/lang/String" "COMPACT_STRINGS" "Z") (.int 1)) := by decide +kernel
theorem fs_fo : FL[5]? = some (Cond.isRef (.static "jdk/internal/util/Preconditions" "SIOOBE_FORMATTER" "Ljava/util/function/BiFunction;")) := by decide +kernel
def tx_b0 : List Int32 := [100, 117, 112, 32, 32, 100, 114, 111, 112, 32, 115, 119, 97, 112, 32, 111, 118, 101, 114, 32, 114, 111, 116, 32, 32, 110, 105, 112, 32, 32, 116, 117, 99, 107, 32, 112, 117, 115, 104, 32, 112, 111, 112, 32, 32, 97, 100, 100, 32, 32, 115, 117, 98, 32, 32, 109, 117, 108, 32, 32, 110, 101, 103, 32, 32, 108, 101, 115, 115, 32, 115, 97, 109, 101, 32, 105, 102, 32, 32, 32, 101, 108, 115, 101, 32, 116, 104, 101, 110, 32, 116, 105, 109, 101, 115, 110, 101, 120, 116, 32, 119, 111, 114, 100, 32, 116, 97, 107, 101, 115, 102, 108, 105, 112, 115, 100, 114, 97, 119, 32, 111, 114, 32, 32, 32, 97, 110, 100, 32, 32, 110, 111, 116, 32, 32, 102, 111, 114, 109, 32, 107, 105, 110, 100, 32]
theorem ft_x0 : FL[69]? = some (Cond.exactly (.string "StackWords$Scanner" 87) "java/lang/String") := by decide +kernel
theorem ft_c0 : FL[70]? = some (Cond.eq (.field (.string "StackWords$Scanner" 87) "java/lang/String" "coder" "B") (.int 0)) := by decide +kernel
theorem ft_a0 : FL[71]? = some (Cond.arrayOf (.field (.string "StackWords$Scanner" 87) "java/lang/String" "value" "[B") .byte) := by decide +kernel
theorem ft_l0 : FL[72]? = some (Cond.eq (.length (.field (.string "StackWords$Scanner" 87) "java/lang/String" "value" "[B")) (.int (Int32.ofNat 145))) := by decide +kernel
theorem ft_e0 : ∀ j : Nat, j < 145 → FL[73 + j]? = some (Cond.eq (.elem (.field (.string "StackWords$Scanner" 87) "java/lang/String" "value" "[B") (.int (Int32.ofNat j))) (.int (tx_b0.getD j 0))) := by decide +kernel
def tx_b1 : List Int32 := [59, 40, 41, 60, 62, 61, 43, 45, 42, 47, 37]
theorem ft_x1 : FL[218]? = some (Cond.exactly (.string "StackWords$Scanner" 73) "java/lang/String") := by decide +kernel
theorem ft_c1 : FL[219]? = some (Cond.eq (.field (.string "StackWords$Scanner" 73) "java/lang/String" "coder" "B") (.int 0)) := by decide +kernel
theorem ft_a1 : FL[220]? = some (Cond.arrayOf (.field (.string "StackWords$Scanner" 73) "java/lang/String" "value" "[B") .byte) := by decide +kernel
theorem ft_l1 : FL[221]? = some (Cond.eq (.length (.field (.string "StackWords$Scanner" 73) "java/lang/String" "value" "[B")) (.int (Int32.ofNat 11))) := by decide +kernel
theorem ft_e1 : ∀ j : Nat, j < 11 → FL[222 + j]? = some (Cond.eq (.elem (.field (.string "StackWords$Scanner" 73) "java/lang/String" "value" "[B") (.int (Int32.ofNat j))) (.int (tx_b1.getD j 0))) := by decide +kernel
theorem ft_ne : FL[233]? = some (Cond.not (Cond.eq (.string "StackWords$Scanner" 87) (.string "StackWords$Scanner" 73))) := by decide +kernel
def tmT (i : Nat) : Term := if i = 0 then .string "StackWords$Scanner" 87 else .string "StackWords$Scanner" 73
theorem i2 {P : Nat → Prop} (a : P 0) (b : P 1) : ∀ i : Nat, i < 2 → P i := fun i h => match i, h with
  | 0, _ => a
  | 1, _ => b
theorem start_G {s : State} {b L : Nat} {xs : Nat → Int32} (hts : ∀ w ∈ lw_tbl, w.before #[Value.ref b] s = true) (hX : va_X b L xs s s.heap) (hbl : b < s.heap.size) (hL : L ≤ 3072) (hgv : (Jvm.Cond.and given_1 narrow_1).before #[Value.ref b] s = true) : ∃ G : sw_G, G.1 = s ∧ G.2.2.2 100008 = b ∧ sw_Gf G ∧ SC G L xs := by
  have hs := flat_of_before _ hgv
  have hm : ∀ {k : Nat} {w : Cond}, FL[k]? = some w → w.before #[Value.ref b] s = true := fun h => hs _ (List.mem_of_getElem? h)
  obtain ⟨D, hD⟩ := st_cls hts
  obtain ⟨ty, hty⟩ := st_tys hts
  obtain ⟨t0, e0, x0, l0⟩ := X_of (xs := fun j => Int32.ofInt (sw_sd 0 j)) (N := 15) (by decide) (hm fs_a0) (hm fs_l0) (fun j hj => hm (fs_e0 j hj))
  obtain ⟨t1, e1, x1, l1⟩ := X_of (xs := fun j => Int32.ofInt (sw_sd 1 j)) (N := 15) (by decide) (hm fs_a1) (hm fs_l1) (fun j hj => hm (fs_e1 j hj))
  obtain ⟨t2, e2, x2, l2⟩ := X_of (xs := fun j => Int32.ofInt (sw_sd 2 j)) (N := 21) (by decide) (hm fs_a2) (hm fs_l2) (fun j hj => hm (fs_e2 j hj))
  have hA : ∀ a : Nat, a < s.heap.size → ¬ (fun q : Nat => s.heap.size ≤ q) a := fun a h q => Nat.not_le.mpr h q
  obtain ⟨adK, adV, hS, hE⟩ := vk_Sof (args := #[Value.ref b]) (s := s) (N := 2) (tm := tmT) (len := [145, 11]) (byt := [tx_b0, tx_b1]) (A := fun q : Nat => s.heap.size ≤ q) (i2 (by decide) (by decide)) (i2 (hm ft_x0) (hm ft_x1)) (i2 (hm ft_c0) (hm ft_c1)) (i2 (hm ft_a0) (hm ft_a1)) (i2 (hm ft_l0) (hm ft_l1)) (i2 (fun j hj => hm (ft_e0 j hj)) (fun j hj => hm (ft_e1 j hj)))
    (fun i j hi hj hij => by
      rcases (show i = 0 ∨ i = 1 by omega) with rfl | rfl
      · rcases (show j = 0 ∨ j = 1 by omega) with rfl | rfl
        · exact absurd rfl hij
        · exact Or.inl (hm ft_ne)
      · rcases (show j = 0 ∨ j = 1 by omega) with rfl | rfl
        · exact Or.inr (hm ft_ne)
        · exact absurd rfl hij) hA
  have z0 := va_Zref (A := fun q : Nat => s.heap.size ≤ q) (hts _ wi_st0) (hts _ (gl wi_in0)) e0 hA
  have z1 := va_Zref (A := fun q : Nat => s.heap.size ≤ q) (hts _ wi_st1) (hts _ (gl wi_in0)) e1 hA
  have z2 := va_Zref (A := fun q : Nat => s.heap.size ≤ q) (hts _ wi_st2) (hts _ (gl wi_in0)) e2 hA
  have zc := va_Zof (A := fun q : Nat => s.heap.size ≤ q) (hts _ wi_cs) (hts _ wi_inS) (va_eqt (hm fs_cs)) hA
  have zf := va_Zqof (A := fun q : Nat => s.heap.size ≤ q) (hts _ wi_fo) (hts _ wi_inP) (hm fs_fo) hA
  let ad : Nat → Nat := fun q => if q = 100000 then t0 else if q = 100001 then t1 else if q = 100002 then t2 else if q = 100003 then adK 0 else if q = 100004 then adK 1 else if q = 100005 then adV 0 else if q = 100006 then adV 1 else b
  refine ⟨(s, D, ty, ad), rfl, rfl, ⟨⟨_, hts⟩, ⟨hD, hty⟩, fun t ht => ?_, ⟨_, vk_R.of (hts _ wi_s87) (hE 0 (by decide))⟩, ⟨_, vk_R.of (hts _ wi_s73) (hE 1 (by decide))⟩, ⟨[tx_b0, tx_b1], ?_⟩, zc, zf⟩, ⟨hX, hbl, hL⟩⟩
  · match t, ht with
    | 0, _ => exact ⟨z0, x0, l0⟩
    | 1, _ => exact ⟨z1, x1, l1⟩
    | 2, _ => exact ⟨z2, x2, l2⟩
  · refine ⟨i2 (hS.1 0 (by decide)) (hS.1 1 (by decide)), fun i j hi hj e => ?_⟩
    apply hS.2 i j hi hj
    rcases (show i = 0 ∨ i = 1 by omega) with rfl | rfl
    · rcases (show j = 0 ∨ j = 1 by omega) with rfl | rfl
      · rfl
      · exact e
    · rcases (show j = 0 ∨ j = 1 by omega) with rfl | rfl
      · exact e
      · rfl

-- ===== the two texts of the class =====
theorem wj_0 : Cond.methodLink "StackWords$Scanner" 89 ⟨"java/lang/String", "length", "()I"⟩ ∈ gtb := gtb_mem (tm_3 (List.mem_of_getElem? (i := 107) (by decide +kernel))) (by decide +kernel)
theorem wj_1 : Cond.instanceMethod ⟨"java/lang/String", "length", "()I"⟩ ∈ gtb := gtb_mem (tm_3 (List.mem_of_getElem? (i := 108) (by decide +kernel))) (by decide +kernel)
theorem wj_2 : Cond.selects "java/lang/String" ⟨"java/lang/String", "length", "()I"⟩ ⟨"java/lang/String", "length", "()I"⟩ ∈ gtb := gtb_mem (tm_3 (List.mem_of_getElem? (i := 109) (by decide +kernel))) (by decide +kernel)
theorem wj_3 : Cond.initialized "java/lang/String" ∈ gtb := gtb_mem (tm_1 (List.mem_of_getElem? (i := 15) (by decide +kernel))) (by decide +kernel)
theorem wj_4 : Cond.code ⟨"java/lang/String", "length", "()I"⟩ cJ0_length_8abf5 1 (some .int) ∈ gtb := gtb_mem (tm_3 (List.mem_of_getElem? (i := 110) (by decide +kernel))) (by decide +kernel)
theorem lj_X5_89 : sw_LV "StackWords$Scanner" 89 mJ0_length_8abf5 0 := ⟨wj_0, wj_1, wj_2, wj_3, wj_4, by decide +kernel, by decide +kernel, by decide⟩
theorem wj_5 : Cond.methodLink "StackWords$Scanner" 92 ⟨"java/lang/String", "charAt", "(I)C"⟩ ∈ gtb := gtb_mem (tm_3 (List.mem_of_getElem? (i := 117) (by decide +kernel))) (by decide +kernel)
theorem wj_6 : Cond.instanceMethod ⟨"java/lang/String", "charAt", "(I)C"⟩ ∈ gtb := gtb_mem (tm_3 (List.mem_of_getElem? (i := 118) (by decide +kernel))) (by decide +kernel)
theorem wj_7 : Cond.selects "java/lang/String" ⟨"java/lang/String", "charAt", "(I)C"⟩ ⟨"java/lang/String", "charAt", "(I)C"⟩ ∈ gtb := gtb_mem (tm_3 (List.mem_of_getElem? (i := 119) (by decide +kernel))) (by decide +kernel)
theorem wj_8 : Cond.code ⟨"java/lang/String", "charAt", "(I)C"⟩ cJ0_charAt_5068e 2 (some .char) ∈ gtb := gtb_mem (tm_3 (List.mem_of_getElem? (i := 120) (by decide +kernel))) (by decide +kernel)
theorem lj_X5_92 : sw_LV "StackWords$Scanner" 92 mJ0_charAt_5068e 1 := ⟨wj_5, wj_6, wj_7, wj_3, wj_8, by decide +kernel, by decide +kernel, by decide⟩
theorem wj_9 : Cond.methodLink "StackWords$Scanner" 75 ⟨"java/lang/String", "indexOf", "(I)I"⟩ ∈ gtb := gtb_mem (tm_3 (List.mem_of_getElem? (i := 164) (by decide +kernel))) (by decide +kernel)
theorem wj_10 : Cond.instanceMethod ⟨"java/lang/String", "indexOf", "(I)I"⟩ ∈ gtb := gtb_mem (tm_3 (List.mem_of_getElem? (i := 165) (by decide +kernel))) (by decide +kernel)
theorem wj_11 : Cond.selects "java/lang/String" ⟨"java/lang/String", "indexOf", "(I)I"⟩ ⟨"java/lang/String", "indexOf", "(I)I"⟩ ∈ gtb := gtb_mem (tm_3 (List.mem_of_getElem? (i := 166) (by decide +kernel))) (by decide +kernel)
theorem wj_12 : Cond.code ⟨"java/lang/String", "indexOf", "(I)I"⟩ cJ0_indexOf_0f7a4 2 (some .int) ∈ gtb := gtb_mem (tm_3 (List.mem_of_getElem? (i := 167) (by decide +kernel))) (by decide +kernel)
theorem lj_X5_75 : sw_LV "StackWords$Scanner" 75 mJ0_indexOf_0f7a4 1 := ⟨wj_9, wj_10, wj_11, wj_3, wj_12, by decide +kernel, by decide +kernel, by decide⟩
theorem wj_13 : Cond.methodLink "java/lang/String" 335 ⟨"java/lang/String", "coder", "()B"⟩ ∈ gtb := gtb_mem (tm_3 (List.mem_of_getElem? (i := 111) (by decide +kernel))) (by decide +kernel)
theorem wj_14 : Cond.instanceMethod ⟨"java/lang/String", "coder", "()B"⟩ ∈ gtb := gtb_mem (tm_3 (List.mem_of_getElem? (i := 112) (by decide +kernel))) (by decide +kernel)
theorem wj_15 : Cond.selects "java/lang/String" ⟨"java/lang/String", "coder", "()B"⟩ ⟨"java/lang/String", "coder", "()B"⟩ ∈ gtb := gtb_mem (tm_3 (List.mem_of_getElem? (i := 113) (by decide +kernel))) (by decide +kernel)
theorem wj_16 : Cond.code ⟨"java/lang/String", "coder", "()B"⟩ cJ0_coder_7d493 1 (some .byte) ∈ gtb := gtb_mem (tm_3 (List.mem_of_getElem? (i := 114) (by decide +kernel))) (by decide +kernel)
theorem lj_J0_335 : sw_LV "java/lang/String" 335 mJ0_coder_7d493 0 := ⟨wj_13, wj_14, wj_15, wj_3, wj_16, by decide +kernel, by decide +kernel, by decide⟩
theorem wj_17 : Cond.methodLink "java/lang/String" 492 ⟨"java/lang/String", "isLatin1", "()Z"⟩ ∈ gtb := gtb_mem (tm_3 (List.mem_of_getElem? (i := 121) (by decide +kernel))) (by decide +kernel)
theorem wj_18 : Cond.instanceMethod ⟨"java/lang/String", "isLatin1", "()Z"⟩ ∈ gtb := gtb_mem (tm_3 (List.mem_of_getElem? (i := 122) (by decide +kernel))) (by decide +kernel)
theorem wj_19 : Cond.selects "java/lang/String" ⟨"java/lang/String", "isLatin1", "()Z"⟩ ⟨"java/lang/String", "isLatin1", "()Z"⟩ ∈ gtb := gtb_mem (tm_3 (List.mem_of_getElem? (i := 123) (by decide +kernel))) (by decide +kernel)
theorem wj_20 : Cond.code ⟨"java/lang/String", "isLatin1", "()Z"⟩ cJ0_isLatin1_aae02 1 (some .boolean) ∈ gtb := gtb_mem (tm_3 (List.mem_of_getElem? (i := 124) (by decide +kernel))) (by decide +kernel)
theorem lj_J0_492 : sw_LV "java/lang/String" 492 mJ0_isLatin1_aae02 0 := ⟨wj_17, wj_18, wj_19, wj_3, wj_20, by decide +kernel, by decide +kernel, by decide⟩
theorem wj_21 : Cond.methodLink "java/lang/String" 633 ⟨"java/lang/String", "indexOf", "(II)I"⟩ ∈ gtb := gtb_mem (tm_3 (List.mem_of_getElem? (i := 168) (by decide +kernel))) (by decide +kernel)
theorem wj_22 : Cond.instanceMethod ⟨"java/lang/String", "indexOf", "(II)I"⟩ ∈ gtb := gtb_mem (tm_3 (List.mem_of_getElem? (i := 169) (by decide +kernel))) (by decide +kernel)
theorem wj_23 : Cond.selects "java/lang/String" ⟨"java/lang/String", "indexOf", "(II)I"⟩ ⟨"java/lang/String", "indexOf", "(II)I"⟩ ∈ gtb := gtb_mem (tm_3 (List.mem_of_getElem? (i := 170) (by decide +kernel))) (by decide +kernel)
theorem wj_24 : Cond.code ⟨"java/lang/String", "indexOf", "(II)I"⟩ cJ0_indexOf_7cf53 3 (some .int) ∈ gtb := gtb_mem (tm_3 (List.mem_of_getElem? (i := 171) (by decide +kernel))) (by decide +kernel)
theorem lj_J0_633 : sw_LV "java/lang/String" 633 mJ0_indexOf_7cf53 2 := ⟨wj_21, wj_22, wj_23, wj_3, wj_24, by decide +kernel, by decide +kernel, by decide⟩
theorem wj_25 : Cond.methodLink "java/lang/String" 505 ⟨"java/lang/String", "length", "()I"⟩ ∈ gtb := gtb_mem (tm_3 (List.mem_of_getElem? (i := 172) (by decide +kernel))) (by decide +kernel)
theorem lj_J0_505 : sw_LV "java/lang/String" 505 mJ0_length_8abf5 0 := ⟨wj_25, wj_1, wj_2, wj_3, wj_4, by decide +kernel, by decide +kernel, by decide⟩
theorem wj_26 : Cond.methodLink "java/lang/String" 495 ⟨"java/lang/StringLatin1", "charAt", "([BI)C"⟩ ∈ gtb := gtb_mem (tm_3 (List.mem_of_getElem? (i := 125) (by decide +kernel))) (by decide +kernel)
theorem wj_27 : Cond.static ⟨"java/lang/StringLatin1", "charAt", "([BI)C"⟩ ∈ gtb := gtb_mem (tm_3 (List.mem_of_getElem? (i := 126) (by decide +kernel))) (by decide +kernel)
theorem wj_28 : Cond.initialized "java/lang/StringLatin1" ∈ gtb := gtb_mem (tm_1 (List.mem_of_getElem? (i := 16) (by decide +kernel))) (by decide +kernel)
theorem wj_29 : Cond.code ⟨"java/lang/StringLatin1", "charAt", "([BI)C"⟩ cJ1_charAt_3b067 2 (some .char) ∈ gtb := gtb_mem (tm_3 (List.mem_of_getElem? (i := 127) (by decide +kernel))) (by decide +kernel)
theorem lj_J0_495 : sw_LS "java/lang/String" 495 mJ1_charAt_3b067 2 := ⟨wj_26, wj_27, wj_28, wj_29, by decide +kernel, by decide +kernel, by decide⟩
theorem wj_30 : Cond.methodLink "java/lang/StringLatin1" 9 ⟨"java/lang/String", "checkIndex", "(II)V"⟩ ∈ gtb := gtb_mem (tm_3 (List.mem_of_getElem? (i := 128) (by decide +kernel))) (by decide +kernel)
theorem wj_31 : Cond.static ⟨"java/lang/String", "checkIndex", "(II)V"⟩ ∈ gtb := gtb_mem (tm_3 (List.mem_of_getElem? (i := 129) (by decide +kernel))) (by decide +kernel)
theorem wj_32 : Cond.code ⟨"java/lang/String", "checkIndex", "(II)V"⟩ cJ0_checkIndex_df160 2 none ∈ gtb := gtb_mem (tm_3 (List.mem_of_getElem? (i := 130) (by decide +kernel))) (by decide +kernel)
theorem lj_J1_9 : sw_LS "java/lang/StringLatin1" 9 mJ0_checkIndex_df160 2 := ⟨wj_30, wj_31, wj_3, wj_32, by decide +kernel, by decide +kernel, by decide⟩
theorem wj_33 : Cond.methodLink "java/lang/String" 1059 ⟨"jdk/internal/util/Preconditions", "checkIndex", "(IILjava/util/function/BiFunction;)I"⟩ ∈ gtb := gtb_mem (tm_3 (List.mem_of_getElem? (i := 133) (by decide +kernel))) (by decide +kernel)
theorem wj_34 : Cond.static ⟨"jdk/internal/util/Preconditions", "checkIndex", "(IILjava/util/function/BiFunction;)I"⟩ ∈ gtb := gtb_mem (tm_3 (List.mem_of_getElem? (i := 134) (by decide +kernel))) (by decide +kernel)
theorem wj_35 : Cond.initialized "jdk/internal/util/Preconditions" ∈ gtb := gtb_mem (tm_1 (List.mem_of_getElem? (i := 17) (by decide +kernel))) (by decide +kernel)
theorem wj_36 : Cond.code ⟨"jdk/internal/util/Preconditions", "checkIndex", "(IILjava/util/function/BiFunction;)I"⟩ cJ3_checkIndex_8e157 3 (some .int) ∈ gtb := gtb_mem (tm_3 (List.mem_of_getElem? (i := 135) (by decide +kernel))) (by decide +kernel)
theorem lj_J0_1059 : sw_LS "java/lang/String" 1059 mJ3_checkIndex_8e157 3 := ⟨wj_33, wj_34, wj_35, wj_36, by decide +kernel, by decide +kernel, by decide⟩
theorem wj_37 : Cond.methodLink "java/lang/String" 637 ⟨"java/lang/StringLatin1", "indexOf", "([BIII)I"⟩ ∈ gtb := gtb_mem (tm_3 (List.mem_of_getElem? (i := 173) (by decide +kernel))) (by decide +kernel)
theorem wj_38 : Cond.static ⟨"java/lang/StringLatin1", "indexOf", "([BIII)I"⟩ ∈ gtb := gtb_mem (tm_3 (List.mem_of_getElem? (i := 174) (by decide +kernel))) (by decide +kernel)
theorem wj_39 : Cond.code ⟨"java/lang/StringLatin1", "indexOf", "([BIII)I"⟩ cJ1_indexOf_4cfef 4 (some .int) ∈ gtb := gtb_mem (tm_3 (List.mem_of_getElem? (i := 175) (by decide +kernel))) (by decide +kernel)
theorem lj_J0_637 : sw_LS "java/lang/String" 637 mJ1_indexOf_4cfef 4 := ⟨wj_37, wj_38, wj_28, wj_39, by decide +kernel, by decide +kernel, by decide⟩
theorem wj_40 : Cond.methodLink "java/lang/StringLatin1" 88 ⟨"java/lang/StringLatin1", "canEncode", "(I)Z"⟩ ∈ gtb := gtb_mem (tm_3 (List.mem_of_getElem? (i := 176) (by decide +kernel))) (by decide +kernel)
theorem wj_41 : Cond.static ⟨"java/lang/StringLatin1", "canEncode", "(I)Z"⟩ ∈ gtb := gtb_mem (tm_3 (List.mem_of_getElem? (i := 177) (by decide +kernel))) (by decide +kernel)
theorem wj_42 : Cond.code ⟨"java/lang/StringLatin1", "canEncode", "(I)Z"⟩ cJ1_canEncode_9a6ad 1 (some .boolean) ∈ gtb := gtb_mem (tm_3 (List.mem_of_getElem? (i := 178) (by decide +kernel))) (by decide +kernel)
theorem lj_J1_88 : sw_LS "java/lang/StringLatin1" 88 mJ1_canEncode_9a6ad 1 := ⟨wj_40, wj_41, wj_28, wj_42, by decide +kernel, by decide +kernel, by decide⟩
theorem wj_43 : Cond.methodLink "java/lang/StringLatin1" 95 ⟨"java/lang/StringLatin1", "indexOfChar", "([BIII)I"⟩ ∈ gtb := gtb_mem (tm_3 (List.mem_of_getElem? (i := 183) (by decide +kernel))) (by decide +kernel)
theorem wj_44 : Cond.static ⟨"java/lang/StringLatin1", "indexOfChar", "([BIII)I"⟩ ∈ gtb := gtb_mem (tm_3 (List.mem_of_getElem? (i := 184) (by decide +kernel))) (by decide +kernel)
theorem wj_45 : Cond.code ⟨"java/lang/StringLatin1", "indexOfChar", "([BIII)I"⟩ cJ1_indexOfChar_4cfef 6 (some .int) ∈ gtb := gtb_mem (tm_3 (List.mem_of_getElem? (i := 185) (by decide +kernel))) (by decide +kernel)
theorem lj_J1_95 : sw_LS "java/lang/StringLatin1" 95 mJ1_indexOfChar_4cfef 4 := ⟨wj_43, wj_44, wj_28, wj_45, by decide +kernel, by decide +kernel, by decide⟩
theorem wj_46 : Cond.fieldLink "java/lang/String" 9 "java/lang/String" "value" "[B" ∈ gtb := gtb_mem (tm_10 (List.mem_of_getElem? (i := 119) (by decide +kernel))) (by decide +kernel)
theorem wj_47 : Cond.fieldLink "java/lang/String" 15 "java/lang/String" "coder" "B" ∈ gtb := gtb_mem (tm_10 (List.mem_of_getElem? (i := 120) (by decide +kernel))) (by decide +kernel)
theorem wj_48 : Cond.fieldLink "java/lang/String" 38 "java/lang/String" "COMPACT_STRINGS" "Z" ∈ gtb := gtb_mem (tm_3 (List.mem_of_getElem? (i := 115) (by decide +kernel))) (by decide +kernel)
theorem wj_49 : Cond.fieldLink "java/lang/String" 1053 "jdk/internal/util/Preconditions" "SIOOBE_FORMATTER" "Ljava/util/function/BiFunction;" ∈ gtb := gtb_mem (tm_3 (List.mem_of_getElem? (i := 131) (by decide +kernel))) (by decide +kernel)
theorem lm_J1_92 : Cond.methodLink "java/lang/StringLatin1" 92 Lib.Math.max.name ∈ gtb := gtb_mem (tm_3 (List.mem_of_getElem? (i := 179) (by decide +kernel))) (by decide +kernel)
theorem lm_J1_38 : Cond.methodLink "java/lang/StringLatin1" 38 Lib.Math.min.name ∈ gtb := gtb_mem (tm_3 (List.mem_of_getElem? (i := 182) (by decide +kernel))) (by decide +kernel)
section RULES
variable {G : sw_G} {N : Nat} {S : sw_S} {d : Nat} {M : sw_M} {pc : Nat} {f : sw_L} {st : List sw_V} {h : sw_H} {Q : Option sw_V → sw_H → Prop}
theorem sw_c16_of (x : Int) : ((Int32.ofInt x).toUInt32 % 65536).toInt32 = Int32.ofInt (sw_c16 x) := by
  unfold sw_c16
  apply Int32.toBitVec_inj.mp
  apply BitVec.eq_of_toNat_eq
  show (BitVec.ofInt 32 x % 65536#32).toNat = (BitVec.ofInt 32 (x % 65536)).toNat
  rw [BitVec.toNat_umod, BitVec.toNat_ofInt, BitVec.toNat_ofInt]
  simp only [show (65536#32).toNat = 65536 from rfl, show ((2 ^ 32 : Nat) : Int) = 4294967296 from rfl]
  omega
theorem sx_i2c {x : Int} (hd : decode M.2.1 pc = .ok (.i2c, 1)) (k : sw_E G N S d M (pc + 1) f (sw_i (sw_c16 x) :: st) h Q) : sw_E G N S d M pc f (sw_i x :: st) h Q :=
  sx_go (fun hs _ => sw_okc (by show sw_ok32 _; unfold sw_ok32 sw_c16; omega) (sw_okt hs)) (fun hx hb _ _ k => lv_i2c hx hb hd (sw_c16_of x) k) k
theorem sw_vt {t : Nat} (h : 100000 ≤ t) : sw_v G (sw_r t) = Value.ref (G.2.2.2 t) := by
  simp only [sw_v, sw_ad]
  rw [if_neg (by omega)]
theorem sw_tx {p : Program} {R : Room} {s : State} {m : MethodId} {meth : Method} {c : Code} {cells slots : Nat} (X : sw_X G N d p R s m meth c M cells slots) : ∃ byt, vk_S 2 [145, 11] byt (fun i => G.2.2.2 (100003 + i)) (fun i => G.2.2.2 (100005 + i)) (sw_B G) s s.heap := by
  obtain ⟨x1, x2, x3, x4, x5, x6, ⟨g1, g2, g3, g4, g5, ⟨byt, g6⟩, g7⟩, x8, x9, x10, x11⟩ := X
  exact ⟨byt, (g6.moved x6.alike).kept (fun a ha _ => x9 a ha)⟩
theorem sx_ldcs {t idx : Nat} (ht : (t = 100003 ∧ idx = 87) ∨ (t = 100004 ∧ idx = 73)) (hM : M.1.cls = "StackWords$Scanner") (hd : decode M.2.1 pc = .ok (.ldc idx, 2)) (k : sw_E G N S d M (pc + 2) f (sw_r t :: st) h Q) : sw_E G N S d M pc f st h Q := by
  intro p l' e R s m args below meth c H locs cells slots F A X hW hH hs hL hR hF'
  obtain ⟨x1, x2, x3, x4, x5, x6, ⟨g1, g2, g3, ⟨tx1, g4⟩, ⟨tx2, g5⟩, g6⟩, x8, x9, x10, x11⟩ := id X
  have k1 := k p l' e R s m args below meth c H locs cells slots F A X hW hH (sw_okc (v := sw_r t) trivial hs) hL hR hF'
  rw [List.map_cons, sw_vt (by omega)] at k1
  rw [hM] at x4
  rcases ht with ⟨rfl, rfl⟩ | ⟨rfl, rfl⟩
  · exact va_ldcS x1 x2 x4 (g4.warm x6) hd k1
  · exact va_ldcS x1 x2 x4 (g5.warm x6) hd k1
/-- the bytes of a text -/
theorem sx_tval {i idx : Nat} (hi : i < 2) (hl : Cond.fieldLink M.1.cls idx "java/lang/String" "value" "[B" ∈ gtb) (hd : decode M.2.1 pc = .ok (.getfield idx, 3)) (k : sw_E G N S d M (pc + 3) f (sw_r (100005 + i) :: st) h Q) : sw_E G N S d M pc f (sw_r (100003 + i) :: st) h Q := by
  intro p l' e R s m args below meth c H locs cells slots F A X hW hH hs hL hR hF'
  obtain ⟨byt, hT⟩ := sw_tx X
  have k1 := k p l' e R s m args below meth c H locs cells slots F A X hW hH (sw_okc (v := sw_r _) trivial (sw_okt hs)) hL hR hF'
  rw [List.map_cons, sw_vt (by omega)] at k1 ⊢
  exact vk_getf X.1 X.2.1 (hT.1 i hi).2.2.1 hW.2 X.2.2.2.1 (sw_hts X args _ hl) (fun _ q => q) hd k1
theorem sx_tcod {i idx : Nat} (hi : i < 2) (hl : Cond.fieldLink M.1.cls idx "java/lang/String" "coder" "B" ∈ gtb) (hd : decode M.2.1 pc = .ok (.getfield idx, 3)) (k : sw_E G N S d M (pc + 3) f (sw_i 0 :: st) h Q) : sw_E G N S d M pc f (sw_r (100003 + i) :: st) h Q := by
  intro p l' e R s m args below meth c H locs cells slots F A X hW hH hs hL hR hF'
  obtain ⟨byt, hT⟩ := sw_tx X
  have k1 := k p l' e R s m args below meth c H locs cells slots F A X hW hH (sw_okc (v := sw_i 0) sw_ok0 (sw_okt hs)) hL hR hF'
  rw [List.map_cons, sw_vt (by omega)]
  exact vk_getf X.1 X.2.1 (hT.1 i hi).2.1 hW.2 X.2.2.2.1 (sw_hts X args _ hl) (fun _ q => q) hd k1
theorem sx_tcs {idx : Nat} (hl : Cond.fieldLink M.1.cls idx "java/lang/String" "COMPACT_STRINGS" "Z" ∈ gtb) (hd : decode M.2.1 pc = .ok (.getstatic idx, 3)) (k : sw_E G N S d M (pc + 3) f (sw_i 1 :: st) h Q) : sw_E G N S d M pc f st h Q := by
  intro p l' e R s m args below meth c H locs cells slots F A X hW hH hs hL hR hF'
  obtain ⟨x1, x2, x3, x4, x5, x6, ⟨g1, g2, g3, g4, g5, g6, g7, g8⟩, x8, x9, x10, x11⟩ := id X
  have k1 := k p l' e R s m args below meth c H locs cells slots F A X hW hH (sw_okc (v := sw_i 1) (by show sw_ok32 1; unfold sw_ok32; omega) hs) hL hR hF'
  exact va_gets x1 x2 ((g7.moved x6.alike).kept (fun a ha _ => x9 a ha)) hW.2 x4 (sw_hts X args _ hl) (fun _ q => q) hd k1
theorem sx_tlen {i : Nat} (hi : i < 2) (hd : decode M.2.1 pc = .ok (.arraylength, 1)) (k : sw_E G N S d M (pc + 1) f (sw_i ((([145, 11] : List Nat).getD i 0 : Nat) : Int) :: st) h Q) : sw_E G N S d M pc f (sw_r (100005 + i) :: st) h Q := by
  intro p l' e R s m args below meth c H locs cells slots F A X hW hH hs hL hR hF'
  obtain ⟨byt, hT⟩ := sw_tx X
  have hb : ([145, 11] : List Nat).getD i 0 ≤ 145 := by
    rcases (show i = 0 ∨ i = 1 by omega) with rfl | rfl <;> decide
  have k1 := k p l' e R s m args below meth c H locs cells slots F A X hW hH (sw_okc (v := sw_i _) (by show sw_ok32 _; unfold sw_ok32; omega) (sw_okt hs)) hL hR hF'
  rw [List.map_cons, sw_vt (by omega)]
  exact va_tlen X.1 X.2.1 (hT.1 i hi).2.2.2 hW.2 (v := Int32.ofInt ((([145, 11] : List Nat).getD i 0 : Nat) : Int)) rfl hd k1
theorem sx_tbyt {i : Nat} {j : Int} (hi : i < 2) (hd : decode M.2.1 pc = .ok (.baload, 1)) (hj : 0 ≤ j ∧ j < ((([145, 11] : List Nat).getD i 0 : Nat) : Int)) (k : ∀ z : Int, sw_E G N S d M (pc + 1) f (sw_i z :: st) h Q) : sw_E G N S d M pc f (sw_i j :: sw_r (100005 + i) :: st) h Q := by
  intro p l' e R s m args below meth c H locs cells slots F A X hW hH hs hL hR hF'
  obtain ⟨byt, hT⟩ := sw_tx X
  have hb : ([145, 11] : List Nat).getD i 0 ≤ 145 := by
    rcases (show i = 0 ∨ i = 1 by omega) with rfl | rfl <;> decide
  obtain ⟨hv, he⟩ := sw_in hj.1 hj.2 (by omega)
  have k1 := k ((byt.getD i []).getD j.toNat 0).toInt p l' e R s m args below meth c H locs cells slots F A X hW hH (sw_okc (v := sw_i _) (sw_i32_ok _) (sw_okt (sw_okt hs))) hL hR hF'
  have e2 : sw_v G (sw_i ((byt.getD i []).getD j.toNat 0).toInt) = Value.int ((byt.getD i []).getD j.toNat 0) := by
    simp only [sw_v]
    rw [Int32.ofInt_toInt]
  rw [List.map_cons, e2] at k1
  rw [List.map_cons, List.map_cons, sw_vt (by omega)]
  exact va_tb X.1 X.2.1 (hT.1 i hi).2.2.2 hW.2 hv (by rw [he]) hd k1
/-- a method of a text is called -/
theorem sx_callT {M2 : sw_M} {idx n i : Nat} {vs stk : List sw_V} {Q2 : Option sw_V → sw_H → Prop} (hl : sw_LV M.1.cls idx M2 n) (hi : i < 2) (hcls : M2.1.cls = "java/lang/String") (hd : decode M.2.1 pc = .ok (.invokevirtual idx, 3)) (hstk : stk = vs.reverse ++ sw_r (100003 + i) :: st) (hn : vs.length = n) (hcat : ((st.map (sw_v G)).map fun v => v.category).sum ≤ 8) (hfit : (lg_sl ((sw_r (100003 + i) :: vs).map (sw_v G))).length ≤ M2.2.2.1) (hrt : ∀ r h', Q2 r h' → sw_rt M2.2.2.2 r)
    (hc : sw_E G N S d M2 0 (sw_pad (sw_en (sw_r (100003 + i) :: vs)) M2.2.2.1) [] h Q2) (k : ∀ r h', Q2 r h' → sw_E G N S (d + 1) M (pc + 3) f (r.toList ++ st) h' Q) : sw_E G N S (d + 1) M pc f stk h Q := by
  subst hstk
  intro p l' e R s m args below meth c H locs cells slots F A X hW hH hs hL hR hF'
  refine sw_size X hW (fun hsz => ?_)
  have hts := sw_hts X args
  obtain ⟨x1, x2, x3, x4, x5, x6, x7, x8, x9, x10, x11, x12, x13, x14⟩ := id X
  obtain ⟨l1, l2, l3, l4, l5, ⟨l6, l7, l8⟩, l9, l10⟩ := hl
  have hvs : ∀ v ∈ (sw_r (100003 + i) :: vs), sw_ok v := by
    intro v hv
    rcases List.mem_cons.mp hv with rfl | hv
    · exact trivial
    · exact hs v (List.mem_append_left _ (List.mem_reverse.mpr hv))
  have hst : ∀ v ∈ st, sw_ok v := fun v hv => hs v (List.mem_append_right _ (List.mem_cons_of_mem _ hv))
  have hM := sw_met l' x7 x8 hH hvs l9 hfit hrt hc
  have hpre : ∀ U : State, U.heap = H → s.WarmedH U.vm → sw_Pc G N S h (sw_r (100003 + i) :: vs) ((sw_r (100003 + i) :: vs).map (sw_v G)).toArray U := fun U hU hUW => ⟨rfl, State.WarmedH.trans x6 hUW, by rw [hU]; exact hW.1, fun q hq => by
    rw [hU, hW.2.2.1 q (by
      rcases Nat.lt_or_ge q s.heap.size with z | z
      · exact z
      · have h6 := x9 q hq
        rw [Array.getElem?_eq_none z, Array.getElem?_eq_getElem hq] at h6
        cases h6) (fun z : G.1.heap.size ≤ q => by omega)]
    exact x9 q hq, by rw [hU]; exact hsz⟩
  obtain ⟨byt, hT⟩ := sw_tx X
  have ea : sw_ad G (100003 + i) = G.2.2.2 (100003 + i) := by
    unfold sw_ad
    rw [if_neg (by omega)]
  have hrec : ∃ cell : Cell, H[sw_ad G (100003 + i)]? = some cell ∧ cell.vm.isStatics = false ∧ s.vm.findClass M2.1.cls = some cell.cls := by
    rw [ea, hcls]
    exact vk_recv (adK := fun i => G.2.2.2 (100003 + i)) (i := i) hT hi hW.2
  have hcw0 : CallB R s args M.1.cls idx M2.1 M2.2.1 M2.2.2.1 M2.2.2.2 [.code M2.1 M2.2.1 M2.2.2.1 M2.2.2.2] (sw_rm d) 0 0 n := callB_of n hts (sw_good1 l5) rfl rfl rfl (hts _ l4) (hts _ l1) ⟨l6, l7, l8⟩ (sw_roomc (M2 := M2) x11 x12 l10)
  have hrun := va_runV (b := sw_ad G (100003 + i)) (As := vs.map (sw_v G)) (rest := st.map (sw_v G)) (g := F0 m pc A ((vs.reverse ++ sw_r (100003 + i) :: st).map (sw_v G))) (locs := locs) (e := e) (below := below) (meth := meth) (cells := cells) (slots := slots) ⟨x1, x2, x3, x4, hts⟩ hM ⟨hcw0, hts _ l2, hts _ l3⟩ ⟨sw_blind, hrec, hpre⟩ rfl (by simpa using hn) hR.1 (by simp [List.map_append, List.map_reverse, sw_v]) (lv_room (m := m) (pc := pc) (ls := A) (rest := []) hcat) hd ⟨x13, x14⟩
  exact sw_back hW hrun (fun r h' H1 locs1 hq ho hH1 hW1 => k r h' hq p l' e R s m args below meth c H1 locs1 cells slots F A X hW1 hH1 (fun v hv => (List.mem_append.mp hv).elim (ho v) (hst v)) hL hR hF')
/-- a contract of a method one of whose arguments is no value of ours -/
theorem sw_metX {d : Nat} {M : sw_M} {vs2 : List Value} {f0 : sw_L} {Q : Option sw_V → sw_H → Prop} (l : Launch) (hg : sw_Gf G) (hN : N ≤ 100000) (hH : sw_okH S h) (hp : plainName M.1.cls = true) (hl : (lg_sl vs2).length ≤ M.2.2.1) (hret : M.2.2.2 = some .int) (hq : ∀ r h', Q r h' → ∃ z, r = some (sw_i z))
    (hent : ∀ A : Array Slot, A = (lg_sl vs2 ++ List.replicate (M.2.2.1 - (lg_sl vs2).length) Slot.unset).toArray → sw_R G A M.2.2.1 f0) (hf0 : ∀ (j : Nat) (v : sw_V), sw_g f0 j = some v → sw_ok v)
    (k : sw_E G N S d M 0 f0 [] h Q) : Met l M.1 [.code M.1 M.2.1 M.2.2.1 M.2.2.2] (sw_rm d) (fun v U => v = vs2.toArray ∧ G.1.WarmedH U.vm ∧ va_P G.2.1 vwCl (sw_ws G N S h) U.heap ∧ (∀ q : Nat, q < G.1.heap.size → U.heap[q]? = G.1.heap[q]?) ∧ U.heap.size = G.1.heap.size + N) (sw_Qc G N S Q) 0 0 (sw_B G) := by
  refine Met.ofW (cc := M.2.1) (maxL := M.2.2.1) (ret := M.2.2.2) hp rfl ?_
  intro p e s m args below meth c s₁ B hml hPc
  obtain ⟨rfl, hW, hP, hold, hsz⟩ := hPc
  have hx := B.exec
  have hb := B.bytes
  have hr := B.returns
  have hlocks := B.notSynchronized
  have hown : s.vm.findClass M.1.cls = some m.cls := findClass_of_methodNamed B.named
  rw [lg_entry_eq]
  have hR := hent _ rfl
  generalize (lg_sl vs2 ++ List.replicate (M.2.2.1 - (lg_sl vs2).length) Slot.unset).toArray = A at hR ⊢
  refine k p l e _ s m _ below meth c s.heap [] 0 0 _ A ⟨hx, hb, hml, hown, hlocks, hW, hg, hN, hold, by omega, Nat.le_refl _, Nat.le_refl _, Nat.le_refl _, Nat.le_refl _⟩ ⟨hP, va_S.rf⟩ hH (fun v hv => by simp at hv) hf0 hR ?_
  intro pc' A' H' locs' r h' hd hq' ho hH' hW'
  obtain ⟨z, rfl⟩ := hq r h' hq'
  have post : ∀ t : State, t.heap = H' → sw_Qc G N S Q vs2.toArray s (.returned ((some (sw_i z)).map (sw_v G))) t := fun t ht => ⟨some (sw_i z), h', rfl, hq', ho, hH', by rw [ht]; exact hW'.1, hW'.2.F ht⟩
  exact W.iret hx hb (hr.trans hret) (fun t ht _ => post t ht) hW'.2.2.2 hd
theorem e_J3 {i n : Int} (hi : 0 ≤ i ∧ i < n) : sw_E G N S d mJ3_checkIndex_8e157 0 [some (sw_i i), some (sw_i n), none] [] h (sw_Qi (fun z h' => h' = h)) := by
  refine sx_iload_n dJ3_checkIndex_8e157_0 rfl ?_
  refine sx_if_lt (tgt := 9) dJ3_checkIndex_8e157_1 (by decide) (fun c => by omega) (fun _ => ?_)
  refine sx_iload_n dJ3_checkIndex_8e157_4 rfl ?_
  refine sx_iload_n dJ3_checkIndex_8e157_5 rfl ?_
  refine sx_icmp_lt (tgt := 16) dJ3_checkIndex_8e157_6 (by decide) (fun _ => ?_) (fun c => by omega)
  refine sx_iload_n dJ3_checkIndex_8e157_16 rfl ?_
  refine sx_ireturn dJ3_checkIndex_8e157_17 ?_
  exact ⟨_, rfl, rfl⟩
theorem e_J0c {i n : Int} (hi : 0 ≤ i ∧ i < n) : sw_E G N S (d + 1) mJ0_checkIndex_df160 0 [some (sw_i i), some (sw_i n)] [] h (sw_Qv (fun h' => h' = h)) := by
  refine sx_iload_n dJ0_checkIndex_df160_0 rfl ?_
  refine sx_iload_n dJ0_checkIndex_df160_1 rfl ?_
  intro p l' e R s m args below meth c H locs cells slots F A X hW hH hs hL hR hF'
  refine sw_size X hW (fun hsz => ?_)
  have hts := sw_hts X args
  obtain ⟨x1, x2, x3, x4, x5, x6, x7, x8, x9, x10, x11, x12, x13, x14⟩ := id X
  obtain ⟨g1, g2, g3, g4, g5, g6, g7, g8⟩ := id x7
  have hz := (va_Zq.moved x6.alike g8).kept (H1 := s.heap) (fun a ha _ => x9 a ha)
  have key : ∀ v : Value, (lg_sl [Value.int (Int32.ofInt i), Value.int (Int32.ofInt n), v]).length ≤ 3 → (∀ A : Array Slot, A = (lg_sl [Value.int (Int32.ofInt i), Value.int (Int32.ofInt n), v] ++ List.replicate (3 - (lg_sl [Value.int (Int32.ofInt i), Value.int (Int32.ofInt n), v]).length) Slot.unset).toArray → sw_R G A 3 [some (sw_i i), some (sw_i n), none]) → va_Z "jdk/internal/util/Preconditions" "SIOOBE_FORMATTER" "Ljava/util/function/BiFunction;" v (sw_B G) s s.heap → W p l' e R s m args below meth c H locs cells slots F (F0 m 2 A ([sw_i n, sw_i i].map (sw_v G))) := by
    intro v hlen hent hv
    refine va_gets x1 x2 (ref := "jdk/internal/util/Preconditions") hv hW.2 x4 (hts _ wj_49) (fun _ q => q) dJ0_checkIndex_df160_2 ?_
    obtain ⟨l1, l2, l4, l5, ⟨l6, l7, l8⟩, l9, l10⟩ := lj_J0_1059
    have hM := sw_metX (M := mJ3_checkIndex_8e157) (vs2 := [Value.int (Int32.ofInt i), Value.int (Int32.ofInt n), v]) l' x7 x8 hH l9 hlen rfl (fun r h' q => by obtain ⟨z, e, -⟩ := q; exact ⟨z, e⟩) hent (fun j w hj => by
      match j, hj with
      | 0, hj => cases hj; exact sw_okh (sw_okt hs)
      | 1, hj => cases hj; exact sw_okh hs
      | 2, hj => cases hj
      | j + 3, hj => cases hj) (e_J3 (d := d) (h := h) hi)
    have hcw0 : CallB R s args "java/lang/String" 1059 mJ3_checkIndex_8e157.1 mJ3_checkIndex_8e157.2.1 3 (some .int) [.code mJ3_checkIndex_8e157.1 mJ3_checkIndex_8e157.2.1 3 (some .int)] (sw_rm d) 0 0 3 := callB_of 3 hts (sw_good1 l5) rfl rfl rfl (hts _ l4) (hts _ l1) ⟨l6, l7, l8⟩ (sw_roomc (M2 := mJ3_checkIndex_8e157) x11 x12 l10)
    have hpre : ∀ U : State, U.heap = H → s.WarmedH U.vm → (fun (w : Array Value) (U : State) => w = [Value.int (Int32.ofInt i), Value.int (Int32.ofInt n), v].toArray ∧ G.1.WarmedH U.vm ∧ va_P G.2.1 vwCl (sw_ws G N S h) U.heap ∧ (∀ q : Nat, q < G.1.heap.size → U.heap[q]? = G.1.heap[q]?) ∧ U.heap.size = G.1.heap.size + N) [Value.int (Int32.ofInt i), Value.int (Int32.ofInt n), v].toArray U := fun U hU hUW => ⟨rfl, State.WarmedH.trans x6 hUW, by rw [hU]; exact hW.1, fun q hq => by
      rw [hU, hW.2.2.1 q (by
        rcases Nat.lt_or_ge q s.heap.size with z | z
        · exact z
        · have h6 := x9 q hq
          rw [Array.getElem?_eq_none z, Array.getElem?_eq_getElem hq] at h6
          cases h6) (fun z : G.1.heap.size ≤ q => by omega)]
      exact x9 q hq, by rw [hU]; exact hsz⟩
    have hrun := va_runS (As := [Value.int (Int32.ofInt i), Value.int (Int32.ofInt n), v]) (rest := ([] : List sw_V).map (sw_v G)) (g := F0 m 5 A [v, Value.int (Int32.ofInt n), Value.int (Int32.ofInt i)]) (locs := locs) (e := e) (below := below) (meth := meth) (cells := cells) (slots := slots) ⟨x1, x2, x3, x4, hts⟩ hM ⟨hcw0, hts _ l2⟩ ⟨fun a U g mk q => q, hpre⟩ rfl rfl hR.1 rfl (lv_room (m := m) (pc := 5) (ls := A) (rest := []) (Nat.le_of_ble_eq_true rfl)) dJ0_checkIndex_df160_5 ⟨x13, x14⟩
    refine sw_back (st := []) hW hrun (fun r h' H1 locs1 hq ho hH1 hW1 => ?_)
    obtain ⟨z, rfl, rfl⟩ := hq
    have tail : sw_E G N S (d + 1) mJ0_checkIndex_df160 8 [some (sw_i i), some (sw_i n)] [sw_i z] h' (sw_Qv (fun h1 => h1 = h')) := by
      refine sx_pop dJ0_checkIndex_df160_8 ?_
      refine sx_ret dJ0_checkIndex_df160_9 ?_
      exact ⟨rfl, rfl⟩
    exact tail p l' e R s m args below meth c H1 locs1 cells slots F A X hW1 hH1 (fun v hv => ho v hv) hL hR hF'
  rcases hz with hz | ⟨t, hz⟩
  · refine key .null (Nat.le_of_ble_eq_true rfl) (fun A2 hA2 => ?_) hz
    have hl := lv_entry ([Value.int (Int32.ofInt i), Value.int (Int32.ofInt n), Value.null]) (n := 3) (Nat.le_of_ble_eq_true rfl)
    rw [← hA2] at hl
    refine ⟨hl.1, hl.2.1, fun j w hj => ?_⟩
    match j, hj with
    | 0, hj => cases hj; exact hl.2.2 (0, .int (Int32.ofInt i)) List.mem_cons_self
    | 1, hj => cases hj; exact hl.2.2 (1, .int (Int32.ofInt n)) (List.mem_cons_of_mem _ List.mem_cons_self)
    | 2, hj => cases hj
    | j + 3, hj => cases hj
  · refine key (.ref t) (Nat.le_of_ble_eq_true rfl) (fun A2 hA2 => ?_) hz
    have hl := lv_entry ([Value.int (Int32.ofInt i), Value.int (Int32.ofInt n), Value.ref t]) (n := 3) (Nat.le_of_ble_eq_true rfl)
    rw [← hA2] at hl
    refine ⟨hl.1, hl.2.1, fun j w hj => ?_⟩
    match j, hj with
    | 0, hj => cases hj; exact hl.2.2 (0, .int (Int32.ofInt i)) List.mem_cons_self
    | 1, hj => cases hj; exact hl.2.2 (1, .int (Int32.ofInt n)) (List.mem_cons_of_mem _ List.mem_cons_self)
    | 2, hj => cases hj
    | j + 3, hj => cases hj
theorem e_cod {i : Nat} (hi : i < 2) : sw_E G N S d mJ0_coder_7d493 0 [some (sw_r (100003 + i))] [] h (sw_Qi (fun z h' => z = 0 ∧ h' = h)) := by
  refine sx_tcs wj_48 dJ0_coder_7d493_0 ?_
  refine sx_if_eq (tgt := 13) dJ0_coder_7d493_3 (by decide) (fun c => absurd c (by decide)) (fun _ => ?_)
  refine sx_aload_n dJ0_coder_7d493_6 rfl ?_
  refine sx_tcod hi wj_47 dJ0_coder_7d493_7 ?_
  refine sx_goto (tgt := 14) dJ0_coder_7d493_10 (by decide) ?_
  refine sx_ireturn dJ0_coder_7d493_14 ?_
  exact ⟨_, rfl, rfl, rfl⟩
theorem e_lat {i : Nat} (hi : i < 2) : sw_E G N S d mJ0_isLatin1_aae02 0 [some (sw_r (100003 + i))] [] h (sw_Qi (fun z h' => z = 1 ∧ h' = h)) := by
  refine sx_tcs wj_48 dJ0_isLatin1_aae02_0 ?_
  refine sx_if_eq (tgt := 17) dJ0_isLatin1_aae02_3 (by decide) (fun c => absurd c (by decide)) (fun _ => ?_)
  refine sx_aload_n dJ0_isLatin1_aae02_6 rfl ?_
  refine sx_tcod hi wj_47 dJ0_isLatin1_aae02_7 ?_
  refine sx_if_ne (tgt := 17) dJ0_isLatin1_aae02_10 (by decide) (fun c => absurd rfl c) (fun _ => ?_)
  refine sx_iconst dJ0_isLatin1_aae02_13 ⟨by decide, by decide⟩ ?_
  refine sx_goto (tgt := 18) dJ0_isLatin1_aae02_14 (by decide) ?_
  refine sx_ireturn dJ0_isLatin1_aae02_18 ?_
  exact ⟨_, rfl, rfl, rfl⟩
theorem e_len {i : Nat} (hi : i < 2) : sw_E G N S (d + 1) mJ0_length_8abf5 0 [some (sw_r (100003 + i))] [] h (sw_Qi (fun z h' => z = ((([145, 11] : List Nat).getD i 0 : Nat) : Int) ∧ h' = h)) := by
  refine sx_aload_n dJ0_length_8abf5_0 rfl ?_
  refine sx_tval hi wj_46 dJ0_length_8abf5_1 ?_
  refine sx_tlen hi dJ0_length_8abf5_4 ?_
  refine sx_aload_n dJ0_length_8abf5_5 rfl ?_
  refine sx_callT lj_J0_335 hi rfl dJ0_length_8abf5_6 (vs := []) rfl rfl (Nat.le_of_ble_eq_true rfl) (Nat.le_of_ble_eq_true rfl) (fun r h' q => by obtain ⟨z, rfl, rfl, -⟩ := q; exact ⟨by decide, by decide⟩) (e_cod hi) (fun r h' q => ?_)
  obtain ⟨z, rfl, rfl, rfl⟩ := q
  refine sx_ishr dJ0_length_8abf5_9 ?_
  refine sx_ireturn dJ0_length_8abf5_10 ?_
  refine ⟨_, rfl, ?_, rfl⟩
  rcases (show i = 0 ∨ i = 1 by omega) with rfl | rfl <;> decide
theorem e_J1ch {j : Int} (hj : 0 ≤ j ∧ j < 145) : sw_E G N S (d + 2) mJ1_charAt_3b067 0 [some (sw_r 100005), some (sw_i j)] [] h (sw_Qi (fun z h' => (0 ≤ z ∧ z ≤ 65535) ∧ h' = h)) := by
  refine sx_iload_n dJ1_charAt_3b067_0 rfl ?_
  refine sx_aload_n dJ1_charAt_3b067_1 rfl ?_
  refine sx_tlen (i := 0) (by decide) dJ1_charAt_3b067_2 ?_
  refine sx_callSv (P := fun h' => h' = h) lj_J1_9 dJ1_charAt_3b067_3 (vs := [_, _]) rfl rfl (Nat.le_of_ble_eq_true rfl) (Nat.le_of_ble_eq_true rfl) rfl (e_J0c (d := d) ⟨hj.1, by show j < 145; exact hj.2⟩) (fun h1 e1 => ?_)
  subst e1
  refine sx_aload_n dJ1_charAt_3b067_6 rfl ?_
  refine sx_iload_n dJ1_charAt_3b067_7 rfl ?_
  refine sx_tbyt (i := 0) (by decide) dJ1_charAt_3b067_8 ⟨hj.1, by show j < 145; exact hj.2⟩ (fun z => ?_)
  refine sx_sipush dJ1_charAt_3b067_9 ⟨by decide, by decide, by decide⟩ ?_
  refine sx_iand dJ1_charAt_3b067_12 ?_
  refine sx_i2c dJ1_charAt_3b067_13 ?_
  refine sx_ireturn dJ1_charAt_3b067_14 ?_
  exact ⟨_, rfl, by unfold sw_c16; omega, rfl⟩
theorem e_ch {j : Int} (hj : 0 ≤ j ∧ j < 145) : sw_E G N S (d + 3) mJ0_charAt_5068e 0 [some (sw_r 100003), some (sw_i j)] [] h (sw_Qi (fun z h' => (0 ≤ z ∧ z ≤ 65535) ∧ h' = h)) := by
  refine sx_aload_n dJ0_charAt_5068e_0 rfl ?_
  refine sx_callT (i := 0) lj_J0_492 (by decide) rfl dJ0_charAt_5068e_1 (vs := []) rfl rfl (Nat.le_of_ble_eq_true rfl) (Nat.le_of_ble_eq_true rfl) (fun r h' q => by obtain ⟨z, rfl, rfl, -⟩ := q; exact Or.inr rfl) (e_lat (by decide)) (fun r h' q => ?_)
  obtain ⟨z, rfl, rfl, rfl⟩ := q
  refine sx_if_eq (tgt := 16) dJ0_charAt_5068e_4 (by decide) (fun c => absurd c (by decide)) (fun _ => ?_)
  refine sx_aload_n dJ0_charAt_5068e_7 rfl ?_
  refine sx_tval (i := 0) (by decide) wj_46 dJ0_charAt_5068e_8 ?_
  refine sx_iload_n dJ0_charAt_5068e_11 rfl ?_
  refine sx_callS lj_J0_495 dJ0_charAt_5068e_12 (vs := [_, _]) rfl rfl (Nat.le_of_ble_eq_true rfl) (Nat.le_of_ble_eq_true rfl) (fun r h' q => by obtain ⟨z, rfl, q, -⟩ := q; exact q) (e_J1ch hj) (fun r h' q => ?_)
  obtain ⟨z, rfl, q, rfl⟩ := q
  refine sx_ireturn dJ0_charAt_5068e_15 ?_
  exact ⟨_, rfl, q, rfl⟩
theorem e_can {x : Int} : sw_E G N S d mJ1_canEncode_9a6ad 0 [some (sw_i x)] [] h (sw_Qz (fun z h' => h' = h)) := by
  refine sx_iload_n dJ1_canEncode_9a6ad_0 rfl ?_
  refine sx_if_lt (tgt := 15) dJ1_canEncode_9a6ad_1 (by decide) (fun _ => ?_) (fun _ => ?_)
  · refine sx_iconst dJ1_canEncode_9a6ad_15 ⟨by decide, by decide⟩ ?_
    refine sx_ireturn dJ1_canEncode_9a6ad_16 ?_
    exact ⟨_, rfl, Or.inl rfl, rfl⟩
  · refine sx_iload_n dJ1_canEncode_9a6ad_4 rfl ?_
    refine sx_sipush dJ1_canEncode_9a6ad_5 ⟨by decide, by decide, by decide⟩ ?_
    refine sx_icmp_gt (tgt := 15) dJ1_canEncode_9a6ad_8 (by decide) (fun _ => ?_) (fun _ => ?_)
    · refine sx_iconst dJ1_canEncode_9a6ad_15 ⟨by decide, by decide⟩ ?_
      refine sx_ireturn dJ1_canEncode_9a6ad_16 ?_
      exact ⟨_, rfl, Or.inl rfl, rfl⟩
    · refine sx_iconst dJ1_canEncode_9a6ad_11 ⟨by decide, by decide⟩ ?_
      refine sx_goto (tgt := 16) dJ1_canEncode_9a6ad_12 (by decide) ?_
      refine sx_ireturn dJ1_canEncode_9a6ad_16 ?_
      exact ⟨_, rfl, Or.inr rfl, rfl⟩
theorem e_ioc {x a n : Int} (ha : 0 ≤ a) (hn : n ≤ 11) : sw_E G N S d mJ1_indexOfChar_4cfef 0 [some (sw_r 100006), some (sw_i x), some (sw_i a), some (sw_i n), none, none] [] h (sw_Qi (fun z h' => (-1 ≤ z ∧ z ≤ 10) ∧ h' = h)) := by
  refine sx_iload_n dJ1_indexOfChar_4cfef_0 rfl ?_
  refine sx_i2b dJ1_indexOfChar_4cfef_1 ?_
  refine sy_top (fun y _ => ?_)
  refine sx_istore dJ1_indexOfChar_4cfef_2 (by decide) ?_
  refine sx_iload_n dJ1_indexOfChar_4cfef_4 rfl ?_
  refine sx_istore dJ1_indexOfChar_4cfef_5 (by decide) ?_
  have loop : ∀ (k : Nat) (b : Int), 0 ≤ b → (n - b).toNat < k → sw_E G N S d mJ1_indexOfChar_4cfef 7 [some (sw_r 100006), some (sw_i x), some (sw_i a), some (sw_i n), some (sw_i y), some (sw_i b)] [] h (sw_Qi (fun z h' => (-1 ≤ z ∧ z ≤ 10) ∧ h' = h)) := by
    intro k
    induction k with
    | zero => intro b _ q; omega
    | succ k ih =>
      intro b hb hk
      refine sx_iload dJ1_indexOfChar_4cfef_7 rfl ?_
      refine sx_iload_n dJ1_indexOfChar_4cfef_9 rfl ?_
      refine sx_icmp_ge (tgt := 31) dJ1_indexOfChar_4cfef_10 (by decide) (fun _ => ?_) (fun c => ?_)
      · refine sx_iconst dJ1_indexOfChar_4cfef_31 ⟨by decide, by decide⟩ ?_
        refine sx_ireturn dJ1_indexOfChar_4cfef_32 ?_
        exact ⟨_, rfl, by omega, rfl⟩
      · refine sx_aload_n dJ1_indexOfChar_4cfef_13 rfl ?_
        refine sx_iload dJ1_indexOfChar_4cfef_14 rfl ?_
        refine sx_tbyt (i := 1) (by decide) dJ1_indexOfChar_4cfef_16 ⟨hb, by show b < 11; omega⟩ (fun z => ?_)
        refine sx_iload dJ1_indexOfChar_4cfef_17 rfl ?_
        refine sx_icmp_ne (tgt := 25) dJ1_indexOfChar_4cfef_19 (by decide) (fun _ => ?_) (fun _ => ?_)
        · refine sx_iinc dJ1_indexOfChar_4cfef_25 (by decide) rfl ?_
          rw [sw_w_id (by omega) (by omega)]
          refine sx_goto (tgt := 7) dJ1_indexOfChar_4cfef_28 (by decide) ?_
          exact ih (b + 1) (by omega) (by omega)
        · refine sx_iload dJ1_indexOfChar_4cfef_22 rfl ?_
          refine sx_ireturn dJ1_indexOfChar_4cfef_24 ?_
          exact ⟨_, rfl, by omega, rfl⟩
  exact loop _ a ha (Nat.lt_succ_self _)
theorem e_J1io {x : Int} : sw_E G N S (d + 1) mJ1_indexOf_4cfef 0 [some (sw_r 100006), some (sw_i x), some (sw_i 0), some (sw_i 11)] [] h (sw_Qi (fun z h' => (-1 ≤ z ∧ z ≤ 10) ∧ h' = h)) := by
  refine sx_iload_n dJ1_indexOf_4cfef_0 rfl ?_
  refine sx_callSz (P := fun _ h' => h' = h) lj_J1_88 dJ1_indexOf_4cfef_1 (vs := [_]) rfl rfl (Nat.le_of_ble_eq_true rfl) (Nat.le_of_ble_eq_true rfl) rfl e_can (fun z h1 _ e1 => ?_)
  subst e1
  refine sx_if_ne (tgt := 9) dJ1_indexOf_4cfef_4 (by decide) (fun _ => ?_) (fun _ => ?_)
  · refine sx_iload_n dJ1_indexOf_4cfef_9 rfl ?_
    refine sx_iconst dJ1_indexOf_4cfef_10 ⟨by decide, by decide⟩ ?_
    refine sx_max lm_J1_92 lw_max dJ1_indexOf_4cfef_11 (Nat.le_of_ble_eq_true rfl) ?_
    refine sy_max (fun a a1 a2 a3 => ?_)
    refine sx_istore_n dJ1_indexOf_4cfef_14 (by decide) ?_
    refine sx_iload_n dJ1_indexOf_4cfef_15 rfl ?_
    refine sx_aload_n dJ1_indexOf_4cfef_16 rfl ?_
    refine sx_tlen (i := 1) (by decide) dJ1_indexOf_4cfef_17 ?_
    refine sx_min lm_J1_38 lw_min dJ1_indexOf_4cfef_18 (Nat.le_of_ble_eq_true rfl) ?_
    refine sy_min (fun b b1 b2 b3 => ?_)
    refine sx_istore_n dJ1_indexOf_4cfef_21 (by decide) ?_
    refine sx_iload_n dJ1_indexOf_4cfef_22 rfl ?_
    refine sx_iload_n dJ1_indexOf_4cfef_23 rfl ?_
    refine sx_icmp_lt (tgt := 29) dJ1_indexOf_4cfef_24 (by decide) (fun _ => ?_) (fun _ => ?_)
    · refine sx_aload_n dJ1_indexOf_4cfef_29 rfl ?_
      refine sx_iload_n dJ1_indexOf_4cfef_30 rfl ?_
      refine sx_iload_n dJ1_indexOf_4cfef_31 rfl ?_
      refine sx_iload_n dJ1_indexOf_4cfef_32 rfl ?_
      refine sx_callSi lj_J1_95 dJ1_indexOf_4cfef_33 (vs := [_, _, _, _]) rfl rfl (Nat.le_of_ble_eq_true rfl) (Nat.le_of_ble_eq_true rfl) rfl (e_ioc a2 b1) (fun z h2 q => ?_)
      refine sx_ireturn dJ1_indexOf_4cfef_36 ?_
      exact ⟨_, rfl, q⟩
    · refine sx_iconst dJ1_indexOf_4cfef_27 ⟨by decide, by decide⟩ ?_
      refine sx_ireturn dJ1_indexOf_4cfef_28 ?_
      exact ⟨_, rfl, by omega, rfl⟩
  · refine sx_iconst dJ1_indexOf_4cfef_7 ⟨by decide, by decide⟩ ?_
    refine sx_ireturn dJ1_indexOf_4cfef_8 ?_
    exact ⟨_, rfl, by omega, rfl⟩
theorem e_io2 {x : Int} : sw_E G N S (d + 2) mJ0_indexOf_7cf53 0 [some (sw_r 100004), some (sw_i x), some (sw_i 0)] [] h (sw_Qi (fun z h' => (-1 ≤ z ∧ z ≤ 10) ∧ h' = h)) := by
  refine sx_aload_n dJ0_indexOf_7cf53_0 rfl ?_
  refine sx_callT (i := 1) lj_J0_492 (by decide) rfl dJ0_indexOf_7cf53_1 (vs := []) rfl rfl (Nat.le_of_ble_eq_true rfl) (Nat.le_of_ble_eq_true rfl) (fun r h' q => by obtain ⟨z, rfl, rfl, -⟩ := q; exact Or.inr rfl) (e_lat (by decide)) (fun r h' q => ?_)
  obtain ⟨z, rfl, rfl, rfl⟩ := q
  refine sx_if_eq (tgt := 23) dJ0_indexOf_7cf53_4 (by decide) (fun c => absurd c (by decide)) (fun _ => ?_)
  refine sx_aload_n dJ0_indexOf_7cf53_7 rfl ?_
  refine sx_tval (i := 1) (by decide) wj_46 dJ0_indexOf_7cf53_8 ?_
  refine sx_iload_n dJ0_indexOf_7cf53_11 rfl ?_
  refine sx_iload_n dJ0_indexOf_7cf53_12 rfl ?_
  refine sx_aload_n dJ0_indexOf_7cf53_13 rfl ?_
  refine sx_callT (i := 1) lj_J0_505 (by decide) rfl dJ0_indexOf_7cf53_14 (vs := []) rfl rfl (Nat.le_of_ble_eq_true rfl) (Nat.le_of_ble_eq_true rfl) (fun r h' q => by obtain ⟨z, rfl, -⟩ := q; trivial) (e_len (by decide)) (fun r h' q => ?_)
  obtain ⟨z, rfl, rfl, rfl⟩ := q
  refine sx_callSi lj_J0_637 dJ0_indexOf_7cf53_17 (vs := [_, _, _, _]) rfl rfl (Nat.le_of_ble_eq_true rfl) (Nat.le_of_ble_eq_true rfl) rfl (e_J1io (x := x)) (fun z h2 q => ?_)
  refine sx_goto (tgt := 36) dJ0_indexOf_7cf53_20 (by decide) ?_
  refine sx_ireturn dJ0_indexOf_7cf53_36 ?_
  exact ⟨_, rfl, q⟩
theorem e_io {x : Int} : sw_E G N S (d + 3) mJ0_indexOf_0f7a4 0 [some (sw_r 100004), some (sw_i x)] [] h (sw_Qi (fun z h' => (-1 ≤ z ∧ z ≤ 10) ∧ h' = h)) := by
  refine sx_aload_n dJ0_indexOf_0f7a4_0 rfl ?_
  refine sx_iload_n dJ0_indexOf_0f7a4_1 rfl ?_
  refine sx_iconst dJ0_indexOf_0f7a4_2 ⟨by decide, by decide⟩ ?_
  refine sx_callT (i := 1) lj_J0_633 (by decide) rfl dJ0_indexOf_0f7a4_3 (vs := [_, _]) rfl rfl (Nat.le_of_ble_eq_true rfl) (Nat.le_of_ble_eq_true rfl) (fun r h' q => by obtain ⟨z, rfl, -⟩ := q; trivial) (e_io2 (x := x)) (fun r h' q => ?_)
  obtain ⟨z, rfl, q⟩ := q
  refine sx_ireturn dJ0_indexOf_0f7a4_6 ?_
  exact ⟨_, rfl, q⟩
theorem sx_slen {idx : Nat} (hl : sw_LV M.1.cls idx mJ0_length_8abf5 0) (hcat : ((st.map (sw_v G)).map fun v => v.category).sum ≤ 8) (hd : decode M.2.1 pc = .ok (.invokevirtual idx, 3)) (k : sw_E G N S (d + 8) M (pc + 3) f (sw_i 145 :: st) h Q) : sw_E G N S (d + 8) M pc f (sw_r 100003 :: st) h Q := by
  refine sx_callT (i := 0) (d := d + 7) hl (by decide) rfl hd (vs := []) rfl rfl hcat (Nat.le_of_ble_eq_true rfl) (fun r h' q => by obtain ⟨z, rfl, -⟩ := q; trivial) (e_len (by decide)) (fun r h' q => ?_)
  obtain ⟨z, rfl, rfl, rfl⟩ := q
  exact k
theorem sx_charAt {idx : Nat} {i : Int} (hl : sw_LV M.1.cls idx mJ0_charAt_5068e 1) (hcat : ((st.map (sw_v G)).map fun v => v.category).sum ≤ 8) (hd : decode M.2.1 pc = .ok (.invokevirtual idx, 3)) (hi : 0 ≤ i ∧ i < 145) (k : ∀ z : Int, 0 ≤ z ∧ z ≤ 65535 → sw_E G N S (d + 8) M (pc + 3) f (sw_i z :: st) h Q) : sw_E G N S (d + 8) M pc f (sw_i i :: sw_r 100003 :: st) h Q := by
  refine sx_callT (i := 0) (d := d + 7) hl (by decide) rfl hd (vs := [_]) rfl rfl hcat (Nat.le_of_ble_eq_true rfl) (fun r h' q => by obtain ⟨z, rfl, q, -⟩ := q; exact q) (e_ch hi) (fun r h' q => ?_)
  obtain ⟨z, rfl, q, rfl⟩ := q
  exact k z q
theorem sx_indexOf {idx : Nat} {i : Int} (hl : sw_LV M.1.cls idx mJ0_indexOf_0f7a4 1) (hcat : ((st.map (sw_v G)).map fun v => v.category).sum ≤ 8) (hd : decode M.2.1 pc = .ok (.invokevirtual idx, 3)) (k : ∀ z : Int, -1 ≤ z ∧ z ≤ 10 → sw_E G N S (d + 8) M (pc + 3) f (sw_i z :: st) h Q) : sw_E G N S (d + 8) M pc f (sw_i i :: sw_r 100004 :: st) h Q := by
  refine sx_callT (i := 1) (d := d + 7) hl (by decide) rfl hd (vs := [_]) rfl rfl hcat (Nat.le_of_ble_eq_true rfl) (fun r h' q => by obtain ⟨z, rfl, -⟩ := q; trivial) (e_io (x := i)) (fun r h' q => ?_)
  obtain ⟨z, rfl, q, rfl⟩ := q
  exact k z q
end RULES

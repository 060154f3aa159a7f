-- ===== the two texts of the class (sorry stands here) =====
theorem wj_0 : Cond.methodLink "StackWords$Scanner" 89 ⟨"java/lang/String", "length", "()I"⟩ ∈ gtb := gtb_mem (tm_3 (List.mem_of_getElem? (i := 107) (by decide +kernel))) (by decide +kernel)
theorem wj_1 : Cond.instanceMethod ⟨"java/lang/String", "length", "()I"⟩ ∈ gtb := gtb_mem (tm_3 (List.mem_of_getElem? (i := 108) (by decide +kernel))) (by decide +kernel)
theorem wj_2 : Cond.selects "java/lang/String" ⟨"java/lang/String", "length", "()I"⟩ ⟨"java/lang/String", "length", "()I"⟩ ∈ gtb := gtb_mem (tm_3 (List.mem_of_getElem? (i := 109) (by decide +kernel))) (by decide +kernel)
theorem wj_3 : Cond.initialized "java/lang/String" ∈ gtb := gtb_mem (tm_1 (List.mem_of_getElem? (i := 15) (by decide +kernel))) (by decide +kernel)
theorem wj_4 : Cond.code ⟨"java/lang/String", "length", "()I"⟩ cJ0_length_8abf5 1 (some .int) ∈ gtb := gtb_mem (tm_3 (List.mem_of_getElem? (i := 110) (by decide +kernel))) (by decide +kernel)
theorem lj_X5_89 : sw_LV "StackWords$Scanner" 89 mJ0_length_8abf5 0 := ⟨wj_0, wj_1, wj_2, wj_3, wj_4, by decide +kernel, by decide +kernel, by decide⟩
theorem wj_5 : Cond.methodLink "StackWords$Scanner" 92 ⟨"java/lang/String", "charAt", "(I)C"⟩ ∈ gtb := gtb_mem (tm_3 (List.mem_of_getElem? (i := 117) (by decide +kernel))) (by decide +kernel)
theorem wj_6 : Cond.instanceMethod ⟨"java/lang/String", "charAt", "(I)C"⟩ ∈ gtb := gtb_mem (tm_3 (List.mem_of_getElem? (i := 118) (by decide +kernel))) (by decide +kernel)
theorem wj_7 : Cond.selects "java/lang/String" ⟨"java/lang/String", "charAt", "(I)C"⟩ ⟨"java/lang/String", "charAt", "(I)C"⟩ ∈ gtb := gtb_mem (tm_3 (List.mem_of_getElem? (i := 119) (by decide +kernel))) (by decide +kernel)
theorem wj_8 : Cond.code ⟨"java/lang/String", "charAt", "(I)C"⟩ cJ0_charAt_5068e 2 (some .char) ∈ gtb := gtb_mem (tm_3 (List.mem_of_getElem? (i := 120) (by decide +kernel))) (by decide +kernel)
theorem lj_X5_92 : sw_LV "StackWords$Scanner" 92 mJ0_charAt_5068e 1 := ⟨wj_5, wj_6, wj_7, wj_3, wj_8, by decide +kernel, by decide +kernel, by decide⟩
theorem wj_9 : Cond.methodLink "StackWords$Scanner" 75 ⟨"java/lang/String", "indexOf", "(I)I"⟩ ∈ gtb := gtb_mem (tm_3 (List.mem_of_getElem? (i := 164) (by decide +kernel))) (by decide +kernel)
theorem wj_10 : Cond.instanceMethod ⟨"java/lang/String", "indexOf", "(I)I"⟩ ∈ gtb := gtb_mem (tm_3 (List.mem_of_getElem? (i := 165) (by decide +kernel))) (by decide +kernel)
theorem wj_11 : Cond.selects "java/lang/String" ⟨"java/lang/String", "indexOf", "(I)I"⟩ ⟨"java/lang/String", "indexOf", "(I)I"⟩ ∈ gtb := gtb_mem (tm_3 (List.mem_of_getElem? (i := 166) (by decide +kernel))) (by decide +kernel)
theorem wj_12 : Cond.code ⟨"java/lang/String", "indexOf", "(I)I"⟩ cJ0_indexOf_0f7a4 2 (some .int) ∈ gtb := gtb_mem (tm_3 (List.mem_of_getElem? (i := 167) (by decide +kernel))) (by decide +kernel)
theorem lj_X5_75 : sw_LV "StackWords$Scanner" 75 mJ0_indexOf_0f7a4 1 := ⟨wj_9, wj_10, wj_11, wj_3, wj_12, by decide +kernel, by decide +kernel, by decide⟩
theorem wj_13 : Cond.methodLink "java/lang/String" 335 ⟨"java/lang/String", "coder", "()B"⟩ ∈ gtb := gtb_mem (tm_3 (List.mem_of_getElem? (i := 111) (by decide +kernel))) (by decide +kernel)
theorem wj_14 : Cond.instanceMethod ⟨"java/lang/String", "coder", "()B"⟩ ∈ gtb := gtb_mem (tm_3 (List.mem_of_getElem? (i := 112) (by decide +kernel))) (by decide +kernel)
theorem wj_15 : Cond.selects "java/lang/String" ⟨"java/lang/String", "coder", "()B"⟩ ⟨"java/lang/String", "coder", "()B"⟩ ∈ gtb := gtb_mem (tm_3 (List.mem_of_getElem? (i := 113) (by decide +kernel))) (by decide +kernel)
theorem wj_16 : Cond.code ⟨"java/lang/String", "coder", "()B"⟩ cJ0_coder_7d493 1 (some .byte) ∈ gtb := gtb_mem (tm_3 (List.mem_of_getElem? (i := 114) (by decide +kernel))) (by decide +kernel)
theorem lj_J0_335 : sw_LV "java/lang/String" 335 mJ0_coder_7d493 0 := ⟨wj_13, wj_14, wj_15, wj_3, wj_16, by decide +kernel, by decide +kernel, by decide⟩
theorem wj_17 : Cond.methodLink "java/lang/String" 492 ⟨"java/lang/String", "isLatin1", "()Z"⟩ ∈ gtb := gtb_mem (tm_3 (List.mem_of_getElem? (i := 121) (by decide +kernel))) (by decide +kernel)
theorem wj_18 : Cond.instanceMethod ⟨"java/lang/String", "isLatin1", "()Z"⟩ ∈ gtb := gtb_mem (tm_3 (List.mem_of_getElem? (i := 122) (by decide +kernel))) (by decide +kernel)
theorem wj_19 : Cond.selects "java/lang/String" ⟨"java/lang/String", "isLatin1", "()Z"⟩ ⟨"java/lang/String", "isLatin1", "()Z"⟩ ∈ gtb := gtb_mem (tm_3 (List.mem_of_getElem? (i := 123) (by decide +kernel))) (by decide +kernel)
theorem wj_20 : Cond.code ⟨"java/lang/String", "isLatin1", "()Z"⟩ cJ0_isLatin1_aae02 1 (some .boolean) ∈ gtb := gtb_mem (tm_3 (List.mem_of_getElem? (i := 124) (by decide +kernel))) (by decide +kernel)
theorem lj_J0_492 : sw_LV "java/lang/String" 492 mJ0_isLatin1_aae02 0 := ⟨wj_17, wj_18, wj_19, wj_3, wj_20, by decide +kernel, by decide +kernel, by decide⟩
theorem wj_21 : Cond.methodLink "java/lang/String" 633 ⟨"java/lang/String", "indexOf", "(II)I"⟩ ∈ gtb := gtb_mem (tm_3 (List.mem_of_getElem? (i := 168) (by decide +kernel))) (by decide +kernel)
theorem wj_22 : Cond.instanceMethod ⟨"java/lang/String", "indexOf", "(II)I"⟩ ∈ gtb := gtb_mem (tm_3 (List.mem_of_getElem? (i := 169) (by decide +kernel))) (by decide +kernel)
theorem wj_23 : Cond.selects "java/lang/String" ⟨"java/lang/String", "indexOf", "(II)I"⟩ ⟨"java/lang/String", "indexOf", "(II)I"⟩ ∈ gtb := gtb_mem (tm_3 (List.mem_of_getElem? (i := 170) (by decide +kernel))) (by decide +kernel)
theorem wj_24 : Cond.code ⟨"java/lang/String", "indexOf", "(II)I"⟩ cJ0_indexOf_7cf53 3 (some .int) ∈ gtb := gtb_mem (tm_3 (List.mem_of_getElem? (i := 171) (by decide +kernel))) (by decide +kernel)
theorem lj_J0_633 : sw_LV "java/lang/String" 633 mJ0_indexOf_7cf53 2 := ⟨wj_21, wj_22, wj_23, wj_3, wj_24, by decide +kernel, by decide +kernel, by decide⟩
theorem wj_25 : Cond.methodLink "java/lang/String" 505 ⟨"java/lang/String", "length", "()I"⟩ ∈ gtb := gtb_mem (tm_3 (List.mem_of_getElem? (i := 172) (by decide +kernel))) (by decide +kernel)
theorem lj_J0_505 : sw_LV "java/lang/String" 505 mJ0_length_8abf5 0 := ⟨wj_25, wj_1, wj_2, wj_3, wj_4, by decide +kernel, by decide +kernel, by decide⟩
theorem wj_26 : Cond.methodLink "java/lang/String" 495 ⟨"java/lang/StringLatin1", "charAt", "([BI)C"⟩ ∈ gtb := gtb_mem (tm_3 (List.mem_of_getElem? (i := 125) (by decide +kernel))) (by decide +kernel)
theorem wj_27 : Cond.static ⟨"java/lang/StringLatin1", "charAt", "([BI)C"⟩ ∈ gtb := gtb_mem (tm_3 (List.mem_of_getElem? (i := 126) (by decide +kernel))) (by decide +kernel)
theorem wj_28 : Cond.initialized "java/lang/StringLatin1" ∈ gtb := gtb_mem (tm_1 (List.mem_of_getElem? (i := 16) (by decide +kernel))) (by decide +kernel)
theorem wj_29 : Cond.code ⟨"java/lang/StringLatin1", "charAt", "([BI)C"⟩ cJ1_charAt_3b067 2 (some .char) ∈ gtb := gtb_mem (tm_3 (List.mem_of_getElem? (i := 127) (by decide +kernel))) (by decide +kernel)
theorem lj_J0_495 : sw_LS "java/lang/String" 495 mJ1_charAt_3b067 2 := ⟨wj_26, wj_27, wj_28, wj_29, by decide +kernel, by decide +kernel, by decide⟩
theorem wj_30 : Cond.methodLink "java/lang/StringLatin1" 9 ⟨"java/lang/String", "checkIndex", "(II)V"⟩ ∈ gtb := gtb_mem (tm_3 (List.mem_of_getElem? (i := 128) (by decide +kernel))) (by decide +kernel)
theorem wj_31 : Cond.static ⟨"java/lang/String", "checkIndex", "(II)V"⟩ ∈ gtb := gtb_mem (tm_3 (List.mem_of_getElem? (i := 129) (by decide +kernel))) (by decide +kernel)
theorem wj_32 : Cond.code ⟨"java/lang/String", "checkIndex", "(II)V"⟩ cJ0_checkIndex_df160 2 none ∈ gtb := gtb_mem (tm_3 (List.mem_of_getElem? (i := 130) (by decide +kernel))) (by decide +kernel)
theorem lj_J1_9 : sw_LS "java/lang/StringLatin1" 9 mJ0_checkIndex_df160 2 := ⟨wj_30, wj_31, wj_3, wj_32, by decide +kernel, by decide +kernel, by decide⟩
theorem wj_33 : Cond.methodLink "java/lang/String" 1059 ⟨"jdk/internal/util/Preconditions", "checkIndex", "(IILjava/util/function/BiFunction;)I"⟩ ∈ gtb := gtb_mem (tm_3 (List.mem_of_getElem? (i := 133) (by decide +kernel))) (by decide +kernel)
theorem wj_34 : Cond.static ⟨"jdk/internal/util/Preconditions", "checkIndex", "(IILjava/util/function/BiFunction;)I"⟩ ∈ gtb := gtb_mem (tm_3 (List.mem_of_getElem? (i := 134) (by decide +kernel))) (by decide +kernel)
theorem wj_35 : Cond.initialized "jdk/internal/util/Preconditions" ∈ gtb := gtb_mem (tm_1 (List.mem_of_getElem? (i := 17) (by decide +kernel))) (by decide +kernel)
theorem wj_36 : Cond.code ⟨"jdk/internal/util/Preconditions", "checkIndex", "(IILjava/util/function/BiFunction;)I"⟩ cJ3_checkIndex_8e157 3 (some .int) ∈ gtb := gtb_mem (tm_3 (List.mem_of_getElem? (i := 135) (by decide +kernel))) (by decide +kernel)
theorem lj_J0_1059 : sw_LS "java/lang/String" 1059 mJ3_checkIndex_8e157 3 := ⟨wj_33, wj_34, wj_35, wj_36, by decide +kernel, by decide +kernel, by decide⟩
theorem wj_37 : Cond.methodLink "java/lang/String" 637 ⟨"java/lang/StringLatin1", "indexOf", "([BIII)I"⟩ ∈ gtb := gtb_mem (tm_3 (List.mem_of_getElem? (i := 173) (by decide +kernel))) (by decide +kernel)
theorem wj_38 : Cond.static ⟨"java/lang/StringLatin1", "indexOf", "([BIII)I"⟩ ∈ gtb := gtb_mem (tm_3 (List.mem_of_getElem? (i := 174) (by decide +kernel))) (by decide +kernel)
theorem wj_39 : Cond.code ⟨"java/lang/StringLatin1", "indexOf", "([BIII)I"⟩ cJ1_indexOf_4cfef 4 (some .int) ∈ gtb := gtb_mem (tm_3 (List.mem_of_getElem? (i := 175) (by decide +kernel))) (by decide +kernel)
theorem lj_J0_637 : sw_LS "java/lang/String" 637 mJ1_indexOf_4cfef 4 := ⟨wj_37, wj_38, wj_28, wj_39, by decide +kernel, by decide +kernel, by decide⟩
theorem wj_40 : Cond.methodLink "java/lang/StringLatin1" 88 ⟨"java/lang/StringLatin1", "canEncode", "(I)Z"⟩ ∈ gtb := gtb_mem (tm_3 (List.mem_of_getElem? (i := 176) (by decide +kernel))) (by decide +kernel)
theorem wj_41 : Cond.static ⟨"java/lang/StringLatin1", "canEncode", "(I)Z"⟩ ∈ gtb := gtb_mem (tm_3 (List.mem_of_getElem? (i := 177) (by decide +kernel))) (by decide +kernel)
theorem wj_42 : Cond.code ⟨"java/lang/StringLatin1", "canEncode", "(I)Z"⟩ cJ1_canEncode_9a6ad 1 (some .boolean) ∈ gtb := gtb_mem (tm_3 (List.mem_of_getElem? (i := 178) (by decide +kernel))) (by decide +kernel)
theorem lj_J1_88 : sw_LS "java/lang/StringLatin1" 88 mJ1_canEncode_9a6ad 1 := ⟨wj_40, wj_41, wj_28, wj_42, by decide +kernel, by decide +kernel, by decide⟩
theorem wj_43 : Cond.methodLink "java/lang/StringLatin1" 95 ⟨"java/lang/StringLatin1", "indexOfChar", "([BIII)I"⟩ ∈ gtb := gtb_mem (tm_3 (List.mem_of_getElem? (i := 183) (by decide +kernel))) (by decide +kernel)
theorem wj_44 : Cond.static ⟨"java/lang/StringLatin1", "indexOfChar", "([BIII)I"⟩ ∈ gtb := gtb_mem (tm_3 (List.mem_of_getElem? (i := 184) (by decide +kernel))) (by decide +kernel)
theorem wj_45 : Cond.code ⟨"java/lang/StringLatin1", "indexOfChar", "([BIII)I"⟩ cJ1_indexOfChar_4cfef 6 (some .int) ∈ gtb := gtb_mem (tm_3 (List.mem_of_getElem? (i := 185) (by decide +kernel))) (by decide +kernel)
theorem lj_J1_95 : sw_LS "java/lang/StringLatin1" 95 mJ1_indexOfChar_4cfef 4 := ⟨wj_43, wj_44, wj_28, wj_45, by decide +kernel, by decide +kernel, by decide⟩
theorem wj_46 : Cond.fieldLink "java/lang/String" 9 "java/lang/String" "value" "[B" ∈ gtb := gtb_mem (tm_10 (List.mem_of_getElem? (i := 119) (by decide +kernel))) (by decide +kernel)
theorem wj_47 : Cond.fieldLink "java/lang/String" 15 "java/lang/String" "coder" "B" ∈ gtb := gtb_mem (tm_10 (List.mem_of_getElem? (i := 120) (by decide +kernel))) (by decide +kernel)
theorem wj_48 : Cond.fieldLink "java/lang/String" 38 "java/lang/String" "COMPACT_STRINGS" "Z" ∈ gtb := gtb_mem (tm_3 (List.mem_of_getElem? (i := 115) (by decide +kernel))) (by decide +kernel)
theorem wj_49 : Cond.fieldLink "java/lang/String" 1053 "jdk/internal/util/Preconditions" "SIOOBE_FORMATTER" "Ljava/util/function/BiFunction;" ∈ gtb := gtb_mem (tm_3 (List.mem_of_getElem? (i := 131) (by decide +kernel))) (by decide +kernel)
section RULES
variable {G : sw_G} {N : Nat} {S : sw_S} {d : Nat} {M : sw_M} {pc : Nat} {f : sw_L} {st : List sw_V} {h : sw_H} {Q : Option sw_V → sw_H → Prop}
theorem sw_c16_of (x : Int) : ((Int32.ofInt x).toUInt32 % 65536).toInt32 = Int32.ofInt (sw_c16 x) := by
  unfold sw_c16
  apply Int32.toBitVec_inj.mp
  apply BitVec.eq_of_toNat_eq
  show (BitVec.ofInt 32 x % 65536#32).toNat = (BitVec.ofInt 32 (x % 65536)).toNat
  rw [BitVec.toNat_umod, BitVec.toNat_ofInt, BitVec.toNat_ofInt]
  simp only [show (65536#32).toNat = 65536 from rfl, show ((2 ^ 32 : Nat) : Int) = 4294967296 from rfl]
  omega
theorem sx_i2c {x : Int} (hd : decode M.2.1 pc = .ok (.i2c, 1)) (k : sw_E G N S d M (pc + 1) f (sw_i (sw_c16 x) :: st) h Q) : sw_E G N S d M pc f (sw_i x :: st) h Q :=
  sx_go (fun hs _ => sw_okc (by show sw_ok32 _; unfold sw_ok32 sw_c16; omega) (sw_okt hs)) (fun hx hb _ _ k => lv_i2c hx hb hd (sw_c16_of x) k) k
theorem sx_ldcs {t idx : Nat} (ht : (t = 100003 ∧ idx = 87) ∨ (t = 100004 ∧ idx = 73)) (hM : M.1.cls = "StackWords$Scanner") (hd : decode M.2.1 pc = .ok (.ldc idx, 2)) (k : sw_E G N S d M (pc + 2) f (sw_r t :: st) h Q) : sw_E G N S d M pc f st h Q := by sorry
theorem sx_slen {idx : Nat} (hl : sw_LV M.1.cls idx mJ0_length_8abf5 0) (hcat : ((st.map (sw_v G)).map fun v => v.category).sum ≤ 8) (hd : decode M.2.1 pc = .ok (.invokevirtual idx, 3)) (k : sw_E G N S (d + 8) M (pc + 3) f (sw_i 145 :: st) h Q) : sw_E G N S (d + 8) M pc f (sw_r 100003 :: st) h Q := by sorry
theorem sx_charAt {idx : Nat} {i : Int} (hl : sw_LV M.1.cls idx mJ0_charAt_5068e 1) (hcat : ((st.map (sw_v G)).map fun v => v.category).sum ≤ 8) (hd : decode M.2.1 pc = .ok (.invokevirtual idx, 3)) (hi : 0 ≤ i ∧ i < 145) (k : ∀ z : Int, 0 ≤ z ∧ z ≤ 65535 → sw_E G N S (d + 8) M (pc + 3) f (sw_i z :: st) h Q) : sw_E G N S (d + 8) M pc f (sw_i i :: sw_r 100003 :: st) h Q := by sorry
theorem sx_indexOf {idx : Nat} {i : Int} (hl : sw_LV M.1.cls idx mJ0_indexOf_0f7a4 1) (hcat : ((st.map (sw_v G)).map fun v => v.category).sum ≤ 8) (hd : decode M.2.1 pc = .ok (.invokevirtual idx, 3)) (k : ∀ z : Int, -1 ≤ z ∧ z ≤ 10 → sw_E G N S (d + 8) M (pc + 3) f (sw_i z :: st) h Q) : sw_E G N S (d + 8) M pc f (sw_i i :: sw_r 100004 :: st) h Q := by sorry
end RULES

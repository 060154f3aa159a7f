theorem wc_0 : Cond.methodLink "StackWords" 1 Lib.objectInit ∈ gtb := gtb_mem (tm_1 (List.mem_of_getElem? (i := 27) (by decide +kernel))) (by decide +kernel)
theorem wc_1 : Cond.instanceMethod Lib.objectInit ∈ gtb := gtb_mem (tm_1 (List.mem_of_getElem? (i := 28) (by decide +kernel))) (by decide +kernel)
theorem wc_2 : Cond.code Lib.objectInit ⟨#[0xb1]⟩ 1 none ∈ gtb := gtb_mem (tm_1 (List.mem_of_getElem? (i := 29) (by decide +kernel))) (by decide +kernel)
theorem wc_3 : Cond.classLink "StackWords" 7 "StackWords$Code" ∈ gtb := gtb_mem (tm_1 (List.mem_of_getElem? (i := 30) (by decide +kernel))) (by decide +kernel)
theorem wc_4 : Cond.instantiable "StackWords$Code" 16 ∈ gtb := gtb_mem (tm_1 (List.mem_of_getElem? (i := 31) (by decide +kernel))) (by decide +kernel)
theorem wc_5 : Cond.initialized "StackWords$Code" ∈ gtb := gtb_mem (tm_1 (List.mem_of_getElem? (i := 2) (by decide +kernel))) (by decide +kernel)
theorem wc_6 : Cond.methodLink "StackWords$Code" 3 Lib.objectInit ∈ gtb := gtb_mem (tm_1 (List.mem_of_getElem? (i := 35) (by decide +kernel))) (by decide +kernel)
theorem wc_7 : Cond.arrayClass .int ∈ gtb := gtb_mem (tm_1 (List.mem_of_getElem? (i := 141) (by decide +kernel))) (by decide +kernel)
theorem wc_8 : Cond.methodLink "StackWords" 9 ⟨"StackWords$Code", "<init>", "()V"⟩ ∈ gtb := gtb_mem (tm_1 (List.mem_of_getElem? (i := 32) (by decide +kernel))) (by decide +kernel)
theorem wc_9 : Cond.instanceMethod ⟨"StackWords$Code", "<init>", "()V"⟩ ∈ gtb := gtb_mem (tm_1 (List.mem_of_getElem? (i := 33) (by decide +kernel))) (by decide +kernel)
theorem wc_10 : Cond.code ⟨"StackWords$Code", "<init>", "()V"⟩ cX0_init 1 none ∈ gtb := gtb_mem (tm_1 (List.mem_of_getElem? (i := 34) (by decide +kernel))) (by decide +kernel)
theorem li_0 : sw_LI "StackWords" 9 mX0_init "StackWords" := ⟨Or.inl wc_8, wc_9, wc_5, wc_10, ⟨by decide +kernel, by decide +kernel, by decide⟩, rfl, rfl⟩
theorem wc_11 : Cond.classLink "StackWords" 19 "StackWords$Runner" ∈ gtb := gtb_mem (tm_1 (List.mem_of_getElem? (i := 142) (by decide +kernel))) (by decide +kernel)
theorem wc_12 : Cond.instantiable "StackWords$Runner" 6 ∈ gtb := gtb_mem (tm_1 (List.mem_of_getElem? (i := 143) (by decide +kernel))) (by decide +kernel)
theorem wc_13 : Cond.initialized "StackWords$Runner" ∈ gtb := gtb_mem (tm_1 (List.mem_of_getElem? (i := 3) (by decide +kernel))) (by decide +kernel)
theorem wc_14 : Cond.methodLink "StackWords$Runner" 3 Lib.objectInit ∈ gtb := gtb_mem (tm_1 (List.mem_of_getElem? (i := 147) (by decide +kernel))) (by decide +kernel)
theorem wc_15 : Cond.classLink "StackWords$Runner" 15 "StackWords$State" ∈ gtb := gtb_mem (tm_1 (List.mem_of_getElem? (i := 148) (by decide +kernel))) (by decide +kernel)
theorem wc_16 : Cond.instantiable "StackWords$State" 6 ∈ gtb := gtb_mem (tm_1 (List.mem_of_getElem? (i := 149) (by decide +kernel))) (by decide +kernel)
theorem wc_17 : Cond.initialized "StackWords$State" ∈ gtb := gtb_mem (tm_1 (List.mem_of_getElem? (i := 4) (by decide +kernel))) (by decide +kernel)
theorem wc_18 : Cond.methodLink "StackWords$State" 3 Lib.objectInit ∈ gtb := gtb_mem (tm_1 (List.mem_of_getElem? (i := 153) (by decide +kernel))) (by decide +kernel)
theorem wc_19 : Cond.methodLinkNest "StackWords$Runner" 17 ⟨"StackWords$State", "<init>", "()V"⟩ "StackWords" ∈ lw_tbl := tm_1 (List.mem_of_getElem? (i := 150) (by decide +kernel))
theorem wc_20 : Cond.instanceMethod ⟨"StackWords$State", "<init>", "()V"⟩ ∈ gtb := gtb_mem (tm_1 (List.mem_of_getElem? (i := 151) (by decide +kernel))) (by decide +kernel)
theorem wc_21 : Cond.code ⟨"StackWords$State", "<init>", "()V"⟩ cX8_init 1 none ∈ gtb := gtb_mem (tm_1 (List.mem_of_getElem? (i := 152) (by decide +kernel))) (by decide +kernel)
theorem li_1 : sw_LI "StackWords$Runner" 17 mX8_init "StackWords" := ⟨Or.inr wc_19, wc_20, wc_17, wc_21, ⟨by decide +kernel, by decide +kernel, by decide⟩, rfl, rfl⟩
theorem wc_22 : Cond.methodLinkNest "StackWords" 21 ⟨"StackWords$Runner", "<init>", "()V"⟩ "StackWords" ∈ lw_tbl := tm_1 (List.mem_of_getElem? (i := 144) (by decide +kernel))
theorem wc_23 : Cond.instanceMethod ⟨"StackWords$Runner", "<init>", "()V"⟩ ∈ gtb := gtb_mem (tm_1 (List.mem_of_getElem? (i := 145) (by decide +kernel))) (by decide +kernel)
theorem wc_24 : Cond.code ⟨"StackWords$Runner", "<init>", "()V"⟩ cX4_init 1 none ∈ gtb := gtb_mem (tm_1 (List.mem_of_getElem? (i := 146) (by decide +kernel))) (by decide +kernel)
theorem li_2 : sw_LI "StackWords" 21 mX4_init "StackWords" := ⟨Or.inr wc_22, wc_23, wc_13, wc_24, ⟨by decide +kernel, by decide +kernel, by decide⟩, rfl, rfl⟩
theorem wc_25 : Cond.classLink "StackWords" 26 "StackWords$Reader" ∈ gtb := gtb_mem (tm_1 (List.mem_of_getElem? (i := 196) (by decide +kernel))) (by decide +kernel)
theorem wc_26 : Cond.instantiable "StackWords$Reader" 10 ∈ gtb := gtb_mem (tm_1 (List.mem_of_getElem? (i := 197) (by decide +kernel))) (by decide +kernel)
theorem wc_27 : Cond.initialized "StackWords$Reader" ∈ gtb := gtb_mem (tm_1 (List.mem_of_getElem? (i := 5) (by decide +kernel))) (by decide +kernel)
theorem wc_28 : Cond.methodLink "StackWords$Reader" 3 Lib.objectInit ∈ gtb := gtb_mem (tm_1 (List.mem_of_getElem? (i := 201) (by decide +kernel))) (by decide +kernel)
theorem wc_29 : Cond.classLink "StackWords$Reader" 9 "StackWords$Scanner" ∈ gtb := gtb_mem (tm_1 (List.mem_of_getElem? (i := 202) (by decide +kernel))) (by decide +kernel)
theorem wc_30 : Cond.instantiable "StackWords$Scanner" 9 ∈ gtb := gtb_mem (tm_1 (List.mem_of_getElem? (i := 203) (by decide +kernel))) (by decide +kernel)
theorem wc_31 : Cond.initialized "StackWords$Scanner" ∈ gtb := gtb_mem (tm_1 (List.mem_of_getElem? (i := 6) (by decide +kernel))) (by decide +kernel)
theorem wc_32 : Cond.methodLink "StackWords$Scanner" 3 Lib.objectInit ∈ gtb := gtb_mem (tm_1 (List.mem_of_getElem? (i := 207) (by decide +kernel))) (by decide +kernel)
theorem wc_33 : Cond.arrayClass .byte ∈ gtb := gtb_mem (tm_2 (List.mem_of_getElem? (i := 6) (by decide +kernel))) (by decide +kernel)
theorem wc_34 : Cond.methodLinkNest "StackWords$Reader" 11 ⟨"StackWords$Scanner", "<init>", "()V"⟩ "StackWords" ∈ lw_tbl := tm_1 (List.mem_of_getElem? (i := 204) (by decide +kernel))
theorem wc_35 : Cond.instanceMethod ⟨"StackWords$Scanner", "<init>", "()V"⟩ ∈ gtb := gtb_mem (tm_1 (List.mem_of_getElem? (i := 205) (by decide +kernel))) (by decide +kernel)
theorem wc_36 : Cond.code ⟨"StackWords$Scanner", "<init>", "()V"⟩ cX5_init 1 none ∈ gtb := gtb_mem (tm_1 (List.mem_of_getElem? (i := 206) (by decide +kernel))) (by decide +kernel)
theorem li_3 : sw_LI "StackWords$Reader" 11 mX5_init "StackWords" := ⟨Or.inr wc_34, wc_35, wc_31, wc_36, ⟨by decide +kernel, by decide +kernel, by decide⟩, rfl, rfl⟩
theorem wc_37 : Cond.classLink "StackWords$Reader" 18 "StackWords$Tracer" ∈ gtb := gtb_mem (tm_2 (List.mem_of_getElem? (i := 7) (by decide +kernel))) (by decide +kernel)
theorem wc_38 : Cond.instantiable "StackWords$Tracer" 14 ∈ gtb := gtb_mem (tm_2 (List.mem_of_getElem? (i := 8) (by decide +kernel))) (by decide +kernel)
theorem wc_39 : Cond.initialized "StackWords$Tracer" ∈ gtb := gtb_mem (tm_1 (List.mem_of_getElem? (i := 7) (by decide +kernel))) (by decide +kernel)
theorem wc_40 : Cond.methodLink "StackWords$Tracer" 3 Lib.objectInit ∈ gtb := gtb_mem (tm_2 (List.mem_of_getElem? (i := 12) (by decide +kernel))) (by decide +kernel)
theorem wc_41 : Cond.methodLinkNest "StackWords$Reader" 20 ⟨"StackWords$Tracer", "<init>", "()V"⟩ "StackWords" ∈ lw_tbl := tm_2 (List.mem_of_getElem? (i := 9) (by decide +kernel))
theorem wc_42 : Cond.instanceMethod ⟨"StackWords$Tracer", "<init>", "()V"⟩ ∈ gtb := gtb_mem (tm_2 (List.mem_of_getElem? (i := 10) (by decide +kernel))) (by decide +kernel)
theorem wc_43 : Cond.code ⟨"StackWords$Tracer", "<init>", "()V"⟩ cX10_init 1 none ∈ gtb := gtb_mem (tm_2 (List.mem_of_getElem? (i := 11) (by decide +kernel))) (by decide +kernel)
theorem li_4 : sw_LI "StackWords$Reader" 20 mX10_init "StackWords" := ⟨Or.inr wc_41, wc_42, wc_39, wc_43, ⟨by decide +kernel, by decide +kernel, by decide⟩, rfl, rfl⟩
theorem wc_44 : Cond.classLink "StackWords$Reader" 25 "StackWords$Formula" ∈ gtb := gtb_mem (tm_2 (List.mem_of_getElem? (i := 63) (by decide +kernel))) (by decide +kernel)
theorem wc_45 : Cond.instantiable "StackWords$Formula" 5 ∈ gtb := gtb_mem (tm_2 (List.mem_of_getElem? (i := 64) (by decide +kernel))) (by decide +kernel)
theorem wc_46 : Cond.initialized "StackWords$Formula" ∈ gtb := gtb_mem (tm_1 (List.mem_of_getElem? (i := 8) (by decide +kernel))) (by decide +kernel)
theorem wc_47 : Cond.methodLink "StackWords$Formula" 3 Lib.objectInit ∈ gtb := gtb_mem (tm_2 (List.mem_of_getElem? (i := 68) (by decide +kernel))) (by decide +kernel)
theorem wc_48 : Cond.methodLinkNest "StackWords$Reader" 27 ⟨"StackWords$Formula", "<init>", "()V"⟩ "StackWords" ∈ lw_tbl := tm_2 (List.mem_of_getElem? (i := 65) (by decide +kernel))
theorem wc_49 : Cond.instanceMethod ⟨"StackWords$Formula", "<init>", "()V"⟩ ∈ gtb := gtb_mem (tm_2 (List.mem_of_getElem? (i := 66) (by decide +kernel))) (by decide +kernel)
theorem wc_50 : Cond.code ⟨"StackWords$Formula", "<init>", "()V"⟩ cX2_init 1 none ∈ gtb := gtb_mem (tm_2 (List.mem_of_getElem? (i := 67) (by decide +kernel))) (by decide +kernel)
theorem li_5 : sw_LI "StackWords$Reader" 27 mX2_init "StackWords" := ⟨Or.inr wc_48, wc_49, wc_46, wc_50, ⟨by decide +kernel, by decide +kernel, by decide⟩, rfl, rfl⟩
theorem wc_51 : Cond.arrayClass .long ∈ gtb := gtb_mem (tm_2 (List.mem_of_getElem? (i := 118) (by decide +kernel))) (by decide +kernel)
theorem wc_52 : Cond.methodLinkNest "StackWords" 28 ⟨"StackWords$Reader", "<init>", "()V"⟩ "StackWords" ∈ lw_tbl := tm_1 (List.mem_of_getElem? (i := 198) (by decide +kernel))
theorem wc_53 : Cond.instanceMethod ⟨"StackWords$Reader", "<init>", "()V"⟩ ∈ gtb := gtb_mem (tm_1 (List.mem_of_getElem? (i := 199) (by decide +kernel))) (by decide +kernel)
theorem wc_54 : Cond.code ⟨"StackWords$Reader", "<init>", "()V"⟩ cX3_init 1 none ∈ gtb := gtb_mem (tm_1 (List.mem_of_getElem? (i := 200) (by decide +kernel))) (by decide +kernel)
theorem li_6 : sw_LI "StackWords" 28 mX3_init "StackWords" := ⟨Or.inr wc_52, wc_53, wc_27, wc_54, ⟨by decide +kernel, by decide +kernel, by decide⟩, rfl, rfl⟩
theorem wc_55 : Cond.classLink "StackWords" 33 "StackWords$Timeline" ∈ gtb := gtb_mem (tm_2 (List.mem_of_getElem? (i := 119) (by decide +kernel))) (by decide +kernel)
theorem wc_56 : Cond.instantiable "StackWords$Timeline" 4 ∈ gtb := gtb_mem (tm_2 (List.mem_of_getElem? (i := 120) (by decide +kernel))) (by decide +kernel)
theorem wc_57 : Cond.initialized "StackWords$Timeline" ∈ gtb := gtb_mem (tm_1 (List.mem_of_getElem? (i := 9) (by decide +kernel))) (by decide +kernel)
theorem wc_58 : Cond.methodLink "StackWords$Timeline" 3 Lib.objectInit ∈ gtb := gtb_mem (tm_2 (List.mem_of_getElem? (i := 124) (by decide +kernel))) (by decide +kernel)
theorem wc_59 : Cond.classLink "StackWords$Timeline" 9 "StackWords$State" ∈ gtb := gtb_mem (tm_2 (List.mem_of_getElem? (i := 125) (by decide +kernel))) (by decide +kernel)
theorem wc_60 : Cond.arrayOver (.object "StackWords$State") ∈ lw_tbl := tm_2 (List.mem_of_getElem? (i := 126) (by decide +kernel))
theorem wc_61 : Cond.methodLinkNest "StackWords$Timeline" 17 ⟨"StackWords$State", "<init>", "()V"⟩ "StackWords" ∈ lw_tbl := tm_2 (List.mem_of_getElem? (i := 127) (by decide +kernel))
theorem li_7 : sw_LI "StackWords$Timeline" 17 mX8_init "StackWords" := ⟨Or.inr wc_61, wc_20, wc_17, wc_21, ⟨by decide +kernel, by decide +kernel, by decide⟩, rfl, rfl⟩
theorem wc_62 : Cond.methodLink "StackWords" 35 ⟨"StackWords$Timeline", "<init>", "()V"⟩ ∈ gtb := gtb_mem (tm_2 (List.mem_of_getElem? (i := 121) (by decide +kernel))) (by decide +kernel)
theorem wc_63 : Cond.instanceMethod ⟨"StackWords$Timeline", "<init>", "()V"⟩ ∈ gtb := gtb_mem (tm_2 (List.mem_of_getElem? (i := 122) (by decide +kernel))) (by decide +kernel)
theorem wc_64 : Cond.code ⟨"StackWords$Timeline", "<init>", "()V"⟩ cX9_init 2 none ∈ gtb := gtb_mem (tm_2 (List.mem_of_getElem? (i := 123) (by decide +kernel))) (by decide +kernel)
theorem li_8 : sw_LI "StackWords" 35 mX9_init "StackWords" := ⟨Or.inl wc_62, wc_63, wc_57, wc_64, ⟨by decide +kernel, by decide +kernel, by decide⟩, rfl, rfl⟩
theorem wc_65 : Cond.classLink "StackWords" 40 "StackWords$State" ∈ gtb := gtb_mem (tm_2 (List.mem_of_getElem? (i := 143) (by decide +kernel))) (by decide +kernel)
theorem wc_66 : Cond.methodLinkNest "StackWords" 46 ⟨"StackWords$State", "<init>", "()V"⟩ "StackWords" ∈ lw_tbl := tm_2 (List.mem_of_getElem? (i := 144) (by decide +kernel))
theorem li_9 : sw_LI "StackWords" 46 mX8_init "StackWords" := ⟨Or.inr wc_66, wc_20, wc_17, wc_21, ⟨by decide +kernel, by decide +kernel, by decide⟩, rfl, rfl⟩
theorem wc_67 : Cond.classLink "StackWords" 51 "StackWords$Costs" ∈ gtb := gtb_mem (tm_2 (List.mem_of_getElem? (i := 145) (by decide +kernel))) (by decide +kernel)
theorem wc_68 : Cond.instantiable "StackWords$Costs" 4 ∈ gtb := gtb_mem (tm_2 (List.mem_of_getElem? (i := 146) (by decide +kernel))) (by decide +kernel)
theorem wc_69 : Cond.initialized "StackWords$Costs" ∈ gtb := gtb_mem (tm_1 (List.mem_of_getElem? (i := 10) (by decide +kernel))) (by decide +kernel)
theorem wc_70 : Cond.methodLink "StackWords$Costs" 3 Lib.objectInit ∈ gtb := gtb_mem (tm_2 (List.mem_of_getElem? (i := 150) (by decide +kernel))) (by decide +kernel)
theorem wc_71 : Cond.methodLinkNest "StackWords" 53 ⟨"StackWords$Costs", "<init>", "()V"⟩ "StackWords" ∈ lw_tbl := tm_2 (List.mem_of_getElem? (i := 147) (by decide +kernel))
theorem wc_72 : Cond.instanceMethod ⟨"StackWords$Costs", "<init>", "()V"⟩ ∈ gtb := gtb_mem (tm_2 (List.mem_of_getElem? (i := 148) (by decide +kernel))) (by decide +kernel)
theorem wc_73 : Cond.code ⟨"StackWords$Costs", "<init>", "()V"⟩ cX1_init 1 none ∈ gtb := gtb_mem (tm_2 (List.mem_of_getElem? (i := 149) (by decide +kernel))) (by decide +kernel)
theorem li_10 : sw_LI "StackWords" 53 mX1_init "StackWords" := ⟨Or.inr wc_71, wc_72, wc_69, wc_73, ⟨by decide +kernel, by decide +kernel, by decide⟩, rfl, rfl⟩
theorem wc_74 : Cond.classLink "StackWords" 58 "StackWords$Shuffler" ∈ gtb := gtb_mem (tm_2 (List.mem_of_getElem? (i := 164) (by decide +kernel))) (by decide +kernel)
theorem wc_75 : Cond.instantiable "StackWords$Shuffler" 9 ∈ gtb := gtb_mem (tm_2 (List.mem_of_getElem? (i := 165) (by decide +kernel))) (by decide +kernel)
theorem wc_76 : Cond.initialized "StackWords$Shuffler" ∈ gtb := gtb_mem (tm_1 (List.mem_of_getElem? (i := 11) (by decide +kernel))) (by decide +kernel)
theorem wc_77 : Cond.methodLink "StackWords$Shuffler" 3 Lib.objectInit ∈ gtb := gtb_mem (tm_2 (List.mem_of_getElem? (i := 169) (by decide +kernel))) (by decide +kernel)
theorem wc_78 : Cond.methodLinkNest "StackWords" 60 ⟨"StackWords$Shuffler", "<init>", "()V"⟩ "StackWords" ∈ lw_tbl := tm_2 (List.mem_of_getElem? (i := 166) (by decide +kernel))
theorem wc_79 : Cond.instanceMethod ⟨"StackWords$Shuffler", "<init>", "()V"⟩ ∈ gtb := gtb_mem (tm_2 (List.mem_of_getElem? (i := 167) (by decide +kernel))) (by decide +kernel)
theorem wc_80 : Cond.code ⟨"StackWords$Shuffler", "<init>", "()V"⟩ cX6_init 1 none ∈ gtb := gtb_mem (tm_2 (List.mem_of_getElem? (i := 168) (by decide +kernel))) (by decide +kernel)
theorem li_11 : sw_LI "StackWords" 60 mX6_init "StackWords" := ⟨Or.inr wc_78, wc_79, wc_76, wc_80, ⟨by decide +kernel, by decide +kernel, by decide⟩, rfl, rfl⟩
theorem wc_81 : Cond.classLink "StackWords" 65 "StackWords$Sightings" ∈ gtb := gtb_mem (tm_2 (List.mem_of_getElem? (i := 200) (by decide +kernel))) (by decide +kernel)
theorem wc_82 : Cond.instantiable "StackWords$Sightings" 12 ∈ gtb := gtb_mem (tm_2 (List.mem_of_getElem? (i := 201) (by decide +kernel))) (by decide +kernel)
theorem wc_83 : Cond.initialized "StackWords$Sightings" ∈ gtb := gtb_mem (tm_1 (List.mem_of_getElem? (i := 12) (by decide +kernel))) (by decide +kernel)
theorem wc_84 : Cond.methodLink "StackWords$Sightings" 3 Lib.objectInit ∈ gtb := gtb_mem (tm_2 (List.mem_of_getElem? (i := 205) (by decide +kernel))) (by decide +kernel)
theorem wc_85 : Cond.classLink "StackWords$Sightings" 9 "StackWords$Tracer" ∈ gtb := gtb_mem (tm_2 (List.mem_of_getElem? (i := 206) (by decide +kernel))) (by decide +kernel)
theorem wc_86 : Cond.methodLinkNest "StackWords$Sightings" 11 ⟨"StackWords$Tracer", "<init>", "()V"⟩ "StackWords" ∈ lw_tbl := tm_2 (List.mem_of_getElem? (i := 207) (by decide +kernel))
theorem li_12 : sw_LI "StackWords$Sightings" 11 mX10_init "StackWords" := ⟨Or.inr wc_86, wc_42, wc_39, wc_43, ⟨by decide +kernel, by decide +kernel, by decide⟩, rfl, rfl⟩
theorem wc_87 : Cond.classLink "StackWords$Sightings" 18 "StackWords$Runner" ∈ gtb := gtb_mem (tm_2 (List.mem_of_getElem? (i := 208) (by decide +kernel))) (by decide +kernel)
theorem wc_88 : Cond.methodLinkNest "StackWords$Sightings" 20 ⟨"StackWords$Runner", "<init>", "()V"⟩ "StackWords" ∈ lw_tbl := tm_2 (List.mem_of_getElem? (i := 209) (by decide +kernel))
theorem li_13 : sw_LI "StackWords$Sightings" 20 mX4_init "StackWords" := ⟨Or.inr wc_88, wc_23, wc_13, wc_24, ⟨by decide +kernel, by decide +kernel, by decide⟩, rfl, rfl⟩
theorem wc_89 : Cond.classLink "StackWords$Sightings" 25 "StackWords$State" ∈ gtb := gtb_mem (tm_2 (List.mem_of_getElem? (i := 210) (by decide +kernel))) (by decide +kernel)
theorem wc_90 : Cond.methodLinkNest "StackWords$Sightings" 27 ⟨"StackWords$State", "<init>", "()V"⟩ "StackWords" ∈ lw_tbl := tm_2 (List.mem_of_getElem? (i := 211) (by decide +kernel))
theorem li_14 : sw_LI "StackWords$Sightings" 27 mX8_init "StackWords" := ⟨Or.inr wc_90, wc_20, wc_17, wc_21, ⟨by decide +kernel, by decide +kernel, by decide⟩, rfl, rfl⟩
theorem wc_91 : Cond.arrayClass .boolean ∈ gtb := gtb_mem (tm_3 (List.mem_of_getElem? (i := 11) (by decide +kernel))) (by decide +kernel)
theorem wc_92 : Cond.methodLinkNest "StackWords" 67 ⟨"StackWords$Sightings", "<init>", "()V"⟩ "StackWords" ∈ lw_tbl := tm_2 (List.mem_of_getElem? (i := 202) (by decide +kernel))
theorem wc_93 : Cond.instanceMethod ⟨"StackWords$Sightings", "<init>", "()V"⟩ ∈ gtb := gtb_mem (tm_2 (List.mem_of_getElem? (i := 203) (by decide +kernel))) (by decide +kernel)
theorem wc_94 : Cond.code ⟨"StackWords$Sightings", "<init>", "()V"⟩ cX7_init 1 none ∈ gtb := gtb_mem (tm_2 (List.mem_of_getElem? (i := 204) (by decide +kernel))) (by decide +kernel)
theorem li_15 : sw_LI "StackWords" 67 mX7_init "StackWords" := ⟨Or.inr wc_92, wc_93, wc_83, wc_94, ⟨by decide +kernel, by decide +kernel, by decide⟩, rfl, rfl⟩
theorem wc_95 : Cond.methodLink "StackWordsModel" 1 Lib.objectInit ∈ gtb := gtb_mem (tm_6 (List.mem_of_getElem? (i := 173) (by decide +kernel))) (by decide +kernel)
theorem s2_0 : S2 0 = some (11, [0, 2, 2, 2, 2, 2, 2, 0, 2, 2, 2, 2, 0, 0, 0]) := by decide +kernel
theorem s2_1 : S2 1 = some (0, [0, 0, 0, 0, 0, 2, 2, 2, 2, 2, 2, 2, 2, 2, 2, 2]) := by decide +kernel
theorem s2_2 : S2 2 = some (100, [60]) := by decide +kernel
theorem s2_3 : S2 3 = some (100, [60]) := by decide +kernel
theorem s2_4 : S2 4 = some (100, [60]) := by decide +kernel
theorem s2_5 : S2 5 = some (100, [60]) := by decide +kernel
theorem s2_6 : S2 6 = some (100, [7]) := by decide +kernel
theorem s2_7 : S2 7 = some (100, [6]) := by decide +kernel
theorem s2_8 : S2 8 = some (100, [6]) := by decide +kernel
theorem s2_9 : S2 9 = some (100, [6]) := by decide +kernel
theorem s2_10 : S2 10 = some (100, [6]) := by decide +kernel
theorem s2_11 : S2 11 = some (100, [6]) := by decide +kernel
theorem s2_12 : S2 12 = some (100, [57]) := by decide +kernel
theorem s2_13 : S2 13 = some (0, [0, 0, 0, 0, 0, 2, 2, 2, 2, 2, 2, 2, 2, 2, 2, 2]) := by decide +kernel
theorem s2_14 : S2 14 = some (100, [60]) := by decide +kernel
theorem s2_15 : S2 15 = some (100, [60]) := by decide +kernel
theorem s2_16 : S2 16 = some (100, [60]) := by decide +kernel
theorem s2_17 : S2 17 = some (100, [60]) := by decide +kernel
theorem s2_18 : S2 18 = some (100, [7]) := by decide +kernel
theorem s2_19 : S2 19 = some (100, [6]) := by decide +kernel
theorem s2_20 : S2 20 = some (100, [6]) := by decide +kernel
theorem s2_21 : S2 21 = some (100, [6]) := by decide +kernel
theorem s2_22 : S2 22 = some (100, [6]) := by decide +kernel
theorem s2_23 : S2 23 = some (100, [6]) := by decide +kernel
theorem s2_24 : S2 24 = some (100, [57]) := by decide +kernel
theorem s2_25 : S2 25 = some (4, [2, 2, 0, 2, 2, 2]) := by decide +kernel
theorem s2_26 : S2 26 = some (100, [60]) := by decide +kernel
theorem s2_27 : S2 27 = some (8, [2, 0, 2, 0, 0, 0]) := by decide +kernel
theorem s2_28 : S2 28 = some (100, [24]) := by decide +kernel
theorem s2_29 : S2 29 = some (100, [42]) := by decide +kernel
theorem s2_30 : S2 30 = some (8, [2, 0, 2, 0, 0, 0]) := by decide +kernel
theorem s2_31 : S2 31 = some (100, [24]) := by decide +kernel
theorem s2_32 : S2 32 = some (100, [42]) := by decide +kernel
theorem s2_33 : S2 33 = some (3, [2, 2, 2, 2, 2, 0, 0, 0, 0, 2]) := by decide +kernel
theorem s2_34 : S2 34 = some (5, [2, 0, 0, 0, 0, 0, 1, 0, 0]) := by decide +kernel
theorem s2_35 : S2 35 = some (101, [1600]) := by decide +kernel
theorem s2_36 : S2 36 = some (10, [2, 0, 0, 0, 0, 0, 0, 0, 2, 2, 2, 2, 2, 2]) := by decide +kernel
theorem s2_37 : S2 37 = some (100, [4]) := by decide +kernel
theorem s2_38 : S2 38 = some (100, [4]) := by decide +kernel
theorem s2_39 : S2 39 = some (100, [4]) := by decide +kernel
theorem s2_40 : S2 40 = some (100, [4]) := by decide +kernel
theorem s2_41 : S2 41 = some (100, [4]) := by decide +kernel
theorem s2_42 : S2 42 = some (100, [4]) := by decide +kernel
theorem s2_43 : S2 43 = some (2, [2, 2, 2, 0, 0]) := by decide +kernel
theorem s2_44 : S2 44 = some (100, [270]) := by decide +kernel
theorem s2_45 : S2 45 = some (100, [31]) := by decide +kernel
theorem s2_46 : S2 46 = some (103, [6]) := by decide +kernel
theorem s2_47 : S2 47 = some (100, [4]) := by decide +kernel
theorem s2_48 : S2 48 = some (9, [2, 0, 0, 0]) := by decide +kernel
theorem s2_49 : S2 49 = some (104, [41]) := by decide +kernel
theorem s2_50 : S2 50 = some (8, [2, 0, 2, 0, 0, 0]) := by decide +kernel
theorem s2_51 : S2 51 = some (100, [24]) := by decide +kernel
theorem s2_52 : S2 52 = some (100, [42]) := by decide +kernel
theorem s2_53 : S2 53 = some (8, [2, 0, 2, 0, 0, 0]) := by decide +kernel
theorem s2_54 : S2 54 = some (100, [24]) := by decide +kernel
theorem s2_55 : S2 55 = some (100, [42]) := by decide +kernel
theorem s2_56 : S2 56 = some (8, [2, 0, 2, 0, 0, 0]) := by decide +kernel
theorem s2_57 : S2 57 = some (100, [24]) := by decide +kernel
theorem s2_58 : S2 58 = some (100, [42]) := by decide +kernel
theorem s2_59 : S2 59 = some (8, [2, 0, 2, 0, 0, 0]) := by decide +kernel
theorem s2_60 : S2 60 = some (100, [24]) := by decide +kernel
theorem s2_61 : S2 61 = some (100, [42]) := by decide +kernel
theorem s2_62 : S2 62 = some (8, [2, 0, 2, 0, 0, 0]) := by decide +kernel
theorem s2_63 : S2 63 = some (100, [24]) := by decide +kernel
theorem s2_64 : S2 64 = some (100, [42]) := by decide +kernel
theorem s2_65 : S2 65 = some (8, [2, 0, 2, 0, 0, 0]) := by decide +kernel
theorem s2_66 : S2 66 = some (100, [24]) := by decide +kernel
theorem s2_67 : S2 67 = some (100, [42]) := by decide +kernel
theorem s2_68 : S2 68 = some (8, [2, 0, 2, 0, 0, 0]) := by decide +kernel
theorem s2_69 : S2 69 = some (100, [24]) := by decide +kernel
theorem s2_70 : S2 70 = some (100, [42]) := by decide +kernel
theorem s2_71 : S2 71 = some (8, [2, 0, 2, 0, 0, 0]) := by decide +kernel
theorem s2_72 : S2 72 = some (100, [24]) := by decide +kernel
theorem s2_73 : S2 73 = some (100, [42]) := by decide +kernel
theorem s2_74 : S2 74 = some (8, [2, 0, 2, 0, 0, 0]) := by decide +kernel
theorem s2_75 : S2 75 = some (100, [24]) := by decide +kernel
theorem s2_76 : S2 76 = some (100, [42]) := by decide +kernel
theorem s2_77 : S2 77 = some (8, [2, 0, 2, 0, 0, 0]) := by decide +kernel
theorem s2_78 : S2 78 = some (100, [24]) := by decide +kernel
theorem s2_79 : S2 79 = some (100, [42]) := by decide +kernel
theorem s2_80 : S2 80 = some (8, [2, 0, 2, 0, 0, 0]) := by decide +kernel
theorem s2_81 : S2 81 = some (100, [24]) := by decide +kernel
theorem s2_82 : S2 82 = some (100, [42]) := by decide +kernel
theorem s2_83 : S2 83 = some (8, [2, 0, 2, 0, 0, 0]) := by decide +kernel
theorem s2_84 : S2 84 = some (100, [24]) := by decide +kernel
theorem s2_85 : S2 85 = some (100, [42]) := by decide +kernel
theorem s2_86 : S2 86 = some (8, [2, 0, 2, 0, 0, 0]) := by decide +kernel
theorem s2_87 : S2 87 = some (100, [24]) := by decide +kernel
theorem s2_88 : S2 88 = some (100, [42]) := by decide +kernel
theorem s2_89 : S2 89 = some (8, [2, 0, 2, 0, 0, 0]) := by decide +kernel
theorem s2_90 : S2 90 = some (100, [24]) := by decide +kernel
theorem s2_91 : S2 91 = some (100, [42]) := by decide +kernel
theorem s2_92 : S2 92 = some (8, [2, 0, 2, 0, 0, 0]) := by decide +kernel
theorem s2_93 : S2 93 = some (100, [24]) := by decide +kernel
theorem s2_94 : S2 94 = some (100, [42]) := by decide +kernel
theorem s2_95 : S2 95 = some (8, [2, 0, 2, 0, 0, 0]) := by decide +kernel
theorem s2_96 : S2 96 = some (100, [24]) := by decide +kernel
theorem s2_97 : S2 97 = some (100, [42]) := by decide +kernel
theorem s2_98 : S2 98 = some (8, [2, 0, 2, 0, 0, 0]) := by decide +kernel
theorem s2_99 : S2 99 = some (100, [24]) := by decide +kernel
theorem s2_100 : S2 100 = some (100, [42]) := by decide +kernel
theorem s2_101 : S2 101 = some (8, [2, 0, 2, 0, 0, 0]) := by decide +kernel
theorem s2_102 : S2 102 = some (100, [24]) := by decide +kernel
theorem s2_103 : S2 103 = some (100, [42]) := by decide +kernel
theorem s2_104 : S2 104 = some (8, [2, 0, 2, 0, 0, 0]) := by decide +kernel
theorem s2_105 : S2 105 = some (100, [24]) := by decide +kernel
theorem s2_106 : S2 106 = some (100, [42]) := by decide +kernel
theorem s2_107 : S2 107 = some (8, [2, 0, 2, 0, 0, 0]) := by decide +kernel
theorem s2_108 : S2 108 = some (100, [24]) := by decide +kernel
theorem s2_109 : S2 109 = some (100, [42]) := by decide +kernel
theorem s2_110 : S2 110 = some (8, [2, 0, 2, 0, 0, 0]) := by decide +kernel
theorem s2_111 : S2 111 = some (100, [24]) := by decide +kernel
theorem s2_112 : S2 112 = some (100, [42]) := by decide +kernel
theorem s2_113 : S2 113 = some (8, [2, 0, 2, 0, 0, 0]) := by decide +kernel
theorem s2_114 : S2 114 = some (100, [24]) := by decide +kernel
theorem s2_115 : S2 115 = some (100, [42]) := by decide +kernel
theorem s2_116 : S2 116 = some (8, [2, 0, 2, 0, 0, 0]) := by decide +kernel
theorem s2_117 : S2 117 = some (100, [24]) := by decide +kernel
theorem s2_118 : S2 118 = some (100, [42]) := by decide +kernel
theorem s2_119 : S2 119 = some (8, [2, 0, 2, 0, 0, 0]) := by decide +kernel
theorem s2_120 : S2 120 = some (100, [24]) := by decide +kernel
theorem s2_121 : S2 121 = some (100, [42]) := by decide +kernel
theorem s2_122 : S2 122 = some (8, [2, 0, 2, 0, 0, 0]) := by decide +kernel
theorem s2_123 : S2 123 = some (100, [24]) := by decide +kernel
theorem s2_124 : S2 124 = some (100, [42]) := by decide +kernel
theorem s2_125 : S2 125 = some (8, [2, 0, 2, 0, 0, 0]) := by decide +kernel
theorem s2_126 : S2 126 = some (100, [24]) := by decide +kernel
theorem s2_127 : S2 127 = some (100, [42]) := by decide +kernel
theorem s2_128 : S2 128 = some (8, [2, 0, 2, 0, 0, 0]) := by decide +kernel
theorem s2_129 : S2 129 = some (100, [24]) := by decide +kernel
theorem s2_130 : S2 130 = some (100, [42]) := by decide +kernel
theorem s2_131 : S2 131 = some (8, [2, 0, 2, 0, 0, 0]) := by decide +kernel
theorem s2_132 : S2 132 = some (100, [24]) := by decide +kernel
theorem s2_133 : S2 133 = some (100, [42]) := by decide +kernel
theorem s2_134 : S2 134 = some (8, [2, 0, 2, 0, 0, 0]) := by decide +kernel
theorem s2_135 : S2 135 = some (100, [24]) := by decide +kernel
theorem s2_136 : S2 136 = some (100, [42]) := by decide +kernel
theorem s2_137 : S2 137 = some (8, [2, 0, 2, 0, 0, 0]) := by decide +kernel
theorem s2_138 : S2 138 = some (100, [24]) := by decide +kernel
theorem s2_139 : S2 139 = some (100, [42]) := by decide +kernel
theorem s2_140 : S2 140 = some (8, [2, 0, 2, 0, 0, 0]) := by decide +kernel
theorem s2_141 : S2 141 = some (100, [24]) := by decide +kernel
theorem s2_142 : S2 142 = some (100, [42]) := by decide +kernel
theorem s2_143 : S2 143 = some (8, [2, 0, 2, 0, 0, 0]) := by decide +kernel
theorem s2_144 : S2 144 = some (100, [24]) := by decide +kernel
theorem s2_145 : S2 145 = some (100, [42]) := by decide +kernel
theorem s2_146 : S2 146 = some (8, [2, 0, 2, 0, 0, 0]) := by decide +kernel
theorem s2_147 : S2 147 = some (100, [24]) := by decide +kernel
theorem s2_148 : S2 148 = some (100, [42]) := by decide +kernel
theorem s2_149 : S2 149 = some (8, [2, 0, 2, 0, 0, 0]) := by decide +kernel
theorem s2_150 : S2 150 = some (100, [24]) := by decide +kernel
theorem s2_151 : S2 151 = some (100, [42]) := by decide +kernel
theorem s2_152 : S2 152 = some (8, [2, 0, 2, 0, 0, 0]) := by decide +kernel
theorem s2_153 : S2 153 = some (100, [24]) := by decide +kernel
theorem s2_154 : S2 154 = some (100, [42]) := by decide +kernel
theorem s2_155 : S2 155 = some (8, [2, 0, 2, 0, 0, 0]) := by decide +kernel
theorem s2_156 : S2 156 = some (100, [24]) := by decide +kernel
theorem s2_157 : S2 157 = some (100, [42]) := by decide +kernel
theorem s2_158 : S2 158 = some (8, [2, 0, 2, 0, 0, 0]) := by decide +kernel
theorem s2_159 : S2 159 = some (100, [24]) := by decide +kernel
theorem s2_160 : S2 160 = some (100, [42]) := by decide +kernel
theorem s2_161 : S2 161 = some (8, [2, 0, 2, 0, 0, 0]) := by decide +kernel
theorem s2_162 : S2 162 = some (100, [24]) := by decide +kernel
theorem s2_163 : S2 163 = some (100, [42]) := by decide +kernel
theorem s2_164 : S2 164 = some (8, [2, 0, 2, 0, 0, 0]) := by decide +kernel
theorem s2_165 : S2 165 = some (100, [24]) := by decide +kernel
theorem s2_166 : S2 166 = some (100, [42]) := by decide +kernel
theorem s2_167 : S2 167 = some (8, [2, 0, 2, 0, 0, 0]) := by decide +kernel
theorem s2_168 : S2 168 = some (100, [24]) := by decide +kernel
theorem s2_169 : S2 169 = some (100, [42]) := by decide +kernel
theorem s2_170 : S2 170 = some (8, [2, 0, 2, 0, 0, 0]) := by decide +kernel
theorem s2_171 : S2 171 = some (100, [24]) := by decide +kernel
theorem s2_172 : S2 172 = some (100, [42]) := by decide +kernel
theorem s2_173 : S2 173 = some (104, [3]) := by decide +kernel
theorem s2_174 : S2 174 = some (8, [2, 0, 2, 0, 0, 0]) := by decide +kernel
theorem s2_175 : S2 175 = some (100, [24]) := by decide +kernel
theorem s2_176 : S2 176 = some (100, [42]) := by decide +kernel
theorem s2_177 : S2 177 = some (1, [2, 2, 2, 2]) := by decide +kernel
theorem s2_178 : S2 178 = some (100, [19]) := by decide +kernel
theorem s2_179 : S2 179 = some (100, [6]) := by decide +kernel
theorem s2_180 : S2 180 = some (100, [5]) := by decide +kernel
theorem s2_181 : S2 181 = some (100, [5]) := by decide +kernel
theorem s2_182 : S2 182 = some (6, [2, 0, 2, 2, 2, 2, 2, 0, 0]) := by decide +kernel
theorem s2_183 : S2 183 = some (100, [364]) := by decide +kernel
theorem s2_184 : S2 184 = some (100, [1024]) := by decide +kernel
theorem s2_185 : S2 185 = some (100, [1024]) := by decide +kernel
theorem s2_186 : S2 186 = some (100, [1024]) := by decide +kernel
theorem s2_187 : S2 187 = some (100, [7]) := by decide +kernel
theorem s2_188 : S2 188 = some (100, [364]) := by decide +kernel
theorem s2_189 : S2 189 = some (7, [2, 2, 2, 2, 2, 2, 2, 2, 0, 2, 0, 2]) := by decide +kernel
theorem s2_190 : S2 190 = some (10, [2, 0, 0, 0, 0, 0, 0, 0, 2, 2, 2, 2, 2, 2]) := by decide +kernel
theorem s2_191 : S2 191 = some (100, [4]) := by decide +kernel
theorem s2_192 : S2 192 = some (100, [4]) := by decide +kernel
theorem s2_193 : S2 193 = some (100, [4]) := by decide +kernel
theorem s2_194 : S2 194 = some (100, [4]) := by decide +kernel
theorem s2_195 : S2 195 = some (100, [4]) := by decide +kernel
theorem s2_196 : S2 196 = some (100, [4]) := by decide +kernel
theorem s2_197 : S2 197 = some (4, [2, 2, 0, 2, 2, 2]) := by decide +kernel
theorem s2_198 : S2 198 = some (100, [60]) := by decide +kernel
theorem s2_199 : S2 199 = some (8, [2, 0, 2, 0, 0, 0]) := by decide +kernel
theorem s2_200 : S2 200 = some (100, [24]) := by decide +kernel
theorem s2_201 : S2 201 = some (100, [42]) := by decide +kernel
theorem s2_202 : S2 202 = some (8, [2, 0, 2, 0, 0, 0]) := by decide +kernel
theorem s2_203 : S2 203 = some (100, [24]) := by decide +kernel
theorem s2_204 : S2 204 = some (100, [42]) := by decide +kernel
theorem s2_205 : S2 205 = some (8, [2, 0, 2, 0, 0, 0]) := by decide +kernel
theorem s2_206 : S2 206 = some (100, [24]) := by decide +kernel
theorem s2_207 : S2 207 = some (100, [42]) := by decide +kernel
theorem s2_208 : S2 208 = some (100, [30]) := by decide +kernel
theorem s2_209 : S2 209 = some (100, [30]) := by decide +kernel
theorem s2_210 : S2 210 = some (102, [30]) := by decide +kernel
theorem s2_211 : S2 211 = some (100, [30]) := by decide +kernel
theorem s2_212 : S2 212 = some (100, [30]) := by decide +kernel
theorem s2_213 : S2 213 = some (100, [15]) := by decide +kernel
theorem s2_214 : S2 214 = some (100, [15]) := by decide +kernel
theorem s2_215 : S2 215 = some (8, [2, 0, 2, 0, 0, 0]) := by decide +kernel
theorem s2_216 : S2 216 = some (100, [24]) := by decide +kernel
theorem s2_217 : S2 217 = some (100, [42]) := by decide +kernel
theorem s2_218 : S2 218 = some (8, [2, 0, 2, 0, 0, 0]) := by decide +kernel
theorem s2_219 : S2 219 = some (100, [24]) := by decide +kernel
theorem s2_220 : S2 220 = some (100, [42]) := by decide +kernel
theorem s2_221 : S2 221 = some (8, [2, 0, 2, 0, 0, 0]) := by decide +kernel
theorem s2_222 : S2 222 = some (100, [24]) := by decide +kernel
theorem s2_223 : S2 223 = some (100, [42]) := by decide +kernel
theorem s2_224 : S2 224 = some (12, [2, 2, 0, 0, 0, 0, 0, 0, 0, 0, 1, 2, 2, 2, 2, 2, 2, 2, 2, 2, 2, 2, 2, 2, 2, 2, 2, 2, 2, 2, 2, 2, 2, 2, 2, 2, 0, 0, 0, 0, 0, 0, 2, 2, 2, 2, 2, 2, 2, 2, 2, 0, 0, 0, 0, 0, 0, 0, 0, 0, 0, 2, 2, 2, 2, 2, 2, 0, 0, 0, 0, 0, 2, 0, 0, 2, 2, 2, 2, 0, 2, 2, 2, 0, 0, 0, 2, 2, 2, 2, 2, 2, 2, 2, 2, 2, 2, 2, 2, 0, 0, 2, 2]) := by decide +kernel
theorem s2_225 : S2 225 = some (101, [1620]) := by decide +kernel
theorem s2_226 : S2 226 = some (101, [1600]) := by decide +kernel
theorem s2_227 : S2 227 = some (100, [2]) := by decide +kernel
theorem s2_228 : S2 228 = some (100, [2]) := by decide +kernel
theorem s2_229 : S2 229 = some (100, [2]) := by decide +kernel
theorem s2_230 : S2 230 = some (100, [2]) := by decide +kernel
theorem s2_231 : S2 231 = some (100, [2]) := by decide +kernel
theorem s2_232 : S2 232 = some (100, [2]) := by decide +kernel
theorem s2_233 : S2 233 = some (100, [12]) := by decide +kernel
theorem s2_234 : S2 234 = some (100, [12]) := by decide +kernel
theorem s2_235 : S2 235 = some (100, [12]) := by decide +kernel
theorem s2_236 : S2 236 = some (100, [12]) := by decide +kernel
theorem s2_237 : S2 237 = some (100, [12]) := by decide +kernel
theorem s2_238 : S2 238 = some (100, [12]) := by decide +kernel
theorem s2_239 : S2 239 = some (100, [12]) := by decide +kernel
theorem s2_240 : S2 240 = some (100, [120]) := by decide +kernel
theorem s2_241 : S2 241 = some (100, [120]) := by decide +kernel
theorem s2_242 : S2 242 = some (100, [120]) := by decide +kernel
theorem s2_243 : S2 243 = some (100, [120]) := by decide +kernel
theorem s2_244 : S2 244 = some (100, [2]) := by decide +kernel
theorem s2_245 : S2 245 = some (100, [2]) := by decide +kernel
theorem s2_246 : S2 246 = some (103, [12]) := by decide +kernel
theorem s2_247 : S2 247 = some (100, [1120]) := by decide +kernel
theorem s2_248 : S2 248 = some (100, [1120]) := by decide +kernel
theorem s2_249 : S2 249 = some (100, [90]) := by decide +kernel
theorem s2_250 : S2 250 = some (100, [90]) := by decide +kernel
theorem s2_251 : S2 251 = some (100, [60]) := by decide +kernel
theorem s2_252 : S2 252 = some (100, [6]) := by decide +kernel
theorem s2_253 : S2 253 = some (100, [6]) := by decide +kernel
theorem s2_254 : S2 254 = some (100, [6]) := by decide +kernel
theorem s2_255 : S2 255 = some (100, [6]) := by decide +kernel
theorem s2_256 : S2 256 = some (100, [6]) := by decide +kernel
theorem s2_257 : S2 257 = some (100, [6]) := by decide +kernel
theorem s2_258 : S2 258 = some (100, [6]) := by decide +kernel
theorem s2_259 : S2 259 = some (100, [6]) := by decide +kernel
theorem s2_260 : S2 260 = some (100, [6]) := by decide +kernel
theorem s2_261 : S2 261 = some (100, [34]) := by decide +kernel
theorem s2_262 : S2 262 = some (100, [96]) := by decide +kernel
theorem s2_263 : S2 263 = some (100, [96]) := by decide +kernel
theorem s2_264 : S2 264 = some (100, [8]) := by decide +kernel
theorem s2_265 : S2 265 = some (100, [8]) := by decide +kernel
theorem s2_266 : S2 266 = some (100, [48]) := by decide +kernel
theorem s2_267 : S2 267 = some (100, [1394]) := by decide +kernel
theorem s2_268 : S2 268 = some (100, [6]) := by decide +kernel
theorem s2_269 : S2 269 = some (100, [24]) := by decide +kernel
theorem s2_270 : S2 270 = some (100, [364]) := by decide +kernel
theorem s2_271 : S2 271 = some (100, [364]) := by decide +kernel
theorem s2_272 : S2 272 = some (100, [2548]) := by decide +kernel
theorem s2_273 : S2 273 = some (100, [7]) := by decide +kernel
theorem s2_274 : S2 274 = some (100, [64]) := by decide +kernel
theorem s2_275 : S2 275 = some (100, [6]) := by decide +kernel
theorem s2_276 : S2 276 = some (100, [6]) := by decide +kernel
theorem s2_277 : S2 277 = some (100, [6]) := by decide +kernel
theorem s2_278 : S2 278 = some (100, [6]) := by decide +kernel
theorem s2_279 : S2 279 = some (100, [30]) := by decide +kernel
theorem s2_280 : S2 280 = some (100, [30]) := by decide +kernel
theorem s2_281 : S2 281 = some (100, [30]) := by decide +kernel
theorem s2_282 : S2 282 = some (100, [30]) := by decide +kernel
theorem s2_283 : S2 283 = some (100, [30]) := by decide +kernel
theorem s2_284 : S2 284 = some (100, [30]) := by decide +kernel
theorem s2_285 : S2 285 = some (100, [30]) := by decide +kernel
theorem s2_286 : S2 286 = some (100, [15]) := by decide +kernel
theorem s2_287 : S2 287 = some (102, [15]) := by decide +kernel
theorem s2_288 : S2 288 = some (100, [102]) := by decide +kernel
theorem s2_289 : S2 289 = some (102, [3]) := by decide +kernel

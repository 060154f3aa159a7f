-- ===== what holds when all is made =====
def PP (h : sw_H) : Prop := cJ h ∧ mI h ∧ mB h ∧ h 0 12 = h 224 100
theorem okt_hi {a k : Nat} (h : 224 ≤ a) : okt a k = none := by
  unfold okt
  by_cases q : a < 256
  · rw [if_pos q, if_neg (show ¬ a < 128 by omega), if_neg (show ¬ a < 192 by omega), if_neg (show ¬ a < 224 by omega)]
  · rw [if_neg q]
theorem cJ_eq {h h1 : sw_H} (e : ∀ a k, a < 224 → h1 a k = h a k) (k : cJ h) : cJ h1 := by
  refine ⟨fun a j => ?_, fun i hi => ?_⟩
  · by_cases q : a < 224
    · rw [e a j q]; exact k.1 a j
    · unfold okc; rw [okt_hi (by omega)]; trivial
  · have r := k.2 i hi
    unfold Rg at r ⊢
    split
    · intro c hc j
      rw [e _ _ (by omega), e _ _ (by omega)]
      exact r c hc j
    · rw [e _ _ (by omega), e _ _ (by omega)]; exact r
    · rw [e _ _ (by omega), e _ _ (by omega)]; exact r
    · trivial
theorem initP {h h1 : sw_H} (K : mK (prW [38, 73, 74, 83, 99] [227, 228, 229, 230, 231, 232, 261, 289]) h h1) (hc : cJ h) (z36 : h 224 36 = 0) (z71 : h 224 71 = -1) (z85 : h 224 85 = -1) (z4 : ∀ k, h 244 k = 0) (z5 : ∀ k, h 245 k = 0) (w0 : h1 227 0 = 0) (s : h1 224 73 = 0 ∧ h1 224 74 = 0) (t : h 0 12 = h 224 100) : PP h1 := by
  have e36 : h1 224 36 = 0 := (K.2 224 36 rfl).trans z36
  have e4 : ∀ k, h1 244 k = 0 := fun k => (K.2 244 k rfl).trans (z4 k)
  have e5 : ∀ k, h1 245 k = 0 := fun k => (K.2 245 k rfl).trans (z5 k)
  refine ⟨cJ_eq (fun a k q => K.2 a k ?_) hc, K.1, ⟨⟨fun q => ?_, fun q => ?_, fun c c0 c1 => ?_⟩, (K.2 224 71 rfl).trans z71, by omega, (K.2 224 85 rfl).trans z85⟩, ?_⟩
  · simp only [prW, Bool.not_eq_true', Bool.or_eq_false_iff, Bool.and_eq_false_iff, beq_eq_false_iff_ne, ne_eq]
    refine ⟨Or.inl (by omega), ?_⟩
    simp only [List.contains_cons, List.contains_nil, Bool.or_false, Bool.or_eq_false_iff, beq_eq_false_iff_ne, ne_eq]
    omega
  · rw [e4, e5] at q; omega
  · rw [e4, e5] at q; omega
  · rw [e36, show (0 : Int).toNat = 0 from rfl, w0] at c1; omega
  · rw [K.2 0 12 rfl, K.2 224 100 rfl]; exact t
theorem ho_okt_0 {k : Nat} (h : 16 ≤ k) : okt_0 k = none := by
  unfold okt_0
  split <;> first | rfl | omega
theorem ho_okt_1 {k : Nat} (h : 16 ≤ k) : okt_1 k = none := by
  unfold okt_1
  split <;> first | rfl | omega
theorem ho_okt_13 {k : Nat} (h : 16 ≤ k) : okt_13 k = none := by
  unfold okt_13
  split <;> first | rfl | omega
theorem ho_okt_25 {k : Nat} (h : 16 ≤ k) : okt_25 k = none := by
  unfold okt_25
  split <;> first | rfl | omega
theorem ho_okt_33 {k : Nat} (h : 16 ≤ k) : okt_33 k = none := by
  unfold okt_33
  split <;> first | rfl | omega
theorem ho_okt_34 {k : Nat} (h : 16 ≤ k) : okt_34 k = none := by
  unfold okt_34
  split <;> first | rfl | omega
theorem ho_okt_36 {k : Nat} (h : 16 ≤ k) : okt_36 k = none := by
  unfold okt_36
  split <;> first | rfl | omega
theorem ho_okt_43 {k : Nat} (h : 16 ≤ k) : okt_43 k = none := by
  unfold okt_43
  split <;> first | rfl | omega
theorem ho_okt_48 {k : Nat} (h : 16 ≤ k) : okt_48 k = none := by
  unfold okt_48
  split <;> first | rfl | omega
theorem ho_okt_182 {k : Nat} (h : 16 ≤ k) : okt_182 k = none := by
  unfold okt_182
  split <;> first | rfl | omega
theorem ho_okt_189 {k : Nat} (h : 16 ≤ k) : okt_189 k = none := by
  unfold okt_189
  split <;> first | rfl | omega
theorem ho_okt_190 {k : Nat} (h : 16 ≤ k) : okt_190 k = none := by
  unfold okt_190
  split <;> first | rfl | omega
theorem ho_okt_197 {k : Nat} (h : 16 ≤ k) : okt_197 k = none := by
  unfold okt_197
  split <;> first | rfl | omega
theorem ho_okt_St {k : Nat} (h : 16 ≤ k) : okt_St k = none := by
  unfold okt_St
  split <;> first | rfl | omega
theorem okt_TL {a k : Nat} (ha : a ∈ TL) (hk : 16 ≤ k) : okt a k = none := by
  have h : a = 0 ∨ a = 1 ∨ a = 12 ∨ a = 13 ∨ a = 24 ∨ a = 25 ∨ a = 27 ∨ a = 30 ∨ a = 33 ∨ a = 34 ∨ a = 36 ∨ a = 43 ∨ a = 48 ∨ a = 49 ∨ a = 50 ∨ a = 53 ∨ a = 56 ∨ a = 59 ∨ a = 62 ∨ a = 65 ∨ a = 68 ∨ a = 71 ∨ a = 74 ∨ a = 77 ∨ a = 80 ∨ a = 83 ∨ a = 86 ∨ a = 89 ∨ a = 92 ∨ a = 95 ∨ a = 98 ∨ a = 101 ∨ a = 104 ∨ a = 107 ∨ a = 110 ∨ a = 113 ∨ a = 116 ∨ a = 119 ∨ a = 122 ∨ a = 125 ∨ a = 128 ∨ a = 131 ∨ a = 134 ∨ a = 137 ∨ a = 140 ∨ a = 143 ∨ a = 146 ∨ a = 149 ∨ a = 152 ∨ a = 155 ∨ a = 158 ∨ a = 161 ∨ a = 164 ∨ a = 167 ∨ a = 170 ∨ a = 173 ∨ a = 174 ∨ a = 177 ∨ a = 182 ∨ a = 189 ∨ a = 190 ∨ a = 197 ∨ a = 199 ∨ a = 202 ∨ a = 205 ∨ a = 215 ∨ a = 218 ∨ a = 221 ∨ a = 224 := by
    simpa [TL] using ha
  rcases h with rfl | rfl | rfl | rfl | rfl | rfl | rfl | rfl | rfl | rfl | rfl | rfl | rfl | rfl | rfl | rfl | rfl | rfl | rfl | rfl | rfl | rfl | rfl | rfl | rfl | rfl | rfl | rfl | rfl | rfl | rfl | rfl | rfl | rfl | rfl | rfl | rfl | rfl | rfl | rfl | rfl | rfl | rfl | rfl | rfl | rfl | rfl | rfl | rfl | rfl | rfl | rfl | rfl | rfl | rfl | rfl | rfl | rfl | rfl | rfl | rfl | rfl | rfl | rfl | rfl | rfl | rfl | rfl | rfl
  all_goals first | rfl | exact ho_okt_0 hk | exact ho_okt_1 hk | exact ho_okt_13 hk | exact ho_okt_25 hk | exact ho_okt_33 hk | exact ho_okt_34 hk | exact ho_okt_36 hk | exact ho_okt_43 hk | exact ho_okt_48 hk | exact ho_okt_182 hk | exact ho_okt_189 hk | exact ho_okt_190 hk | exact ho_okt_197 hk | exact ho_okt_St hk
def okcB (a k : Nat) (z : Int) : Bool := match okt a k with | none => true | some p => decide (p.1 ≤ z ∧ z ≤ p.2)
theorem okcB_of {a k : Nat} {z : Int} (h : okcB a k z = true) : okc a k z := by
  unfold okcB at h
  unfold okc
  cases e : okt a k with
  | none => trivial
  | some p => rw [e] at h; exact of_decide_eq_true h
set_option maxRecDepth 100000 in
theorem okc_all : TL.all (fun a => (List.range 16).all (fun k => okcB a k (hZ a k))) = true := by decide +kernel
def omcB (k : Nat) : Bool := match omt_o k with | none => true | some p => decide (p.1 ≤ hZ 224 k ∧ hZ 224 k ≤ p.2)
set_option maxRecDepth 100000 in
theorem omc_all : (List.range 103).all omcB = true := by decide +kernel
theorem omt_lo {a k : Nat} (h : a < 224) : omt a k = none := by
  unfold omt
  (repeat' split) <;> first | rfl | omega
theorem nTL {a : Nat} (h : TL.contains a = false) : a ∉ TL := fun q => by rw [List.contains_iff_mem.mpr q] at h; cases h
theorem nTL_hi {a : Nat} (h : 224 < a) : a ∉ TL := by
  intro ha
  have h2 : TL.all (fun x => decide (x ≤ 224)) = true := by decide
  have := of_decide_eq_true (List.all_eq_true.mp h2 a ha)
  omega
theorem cJ_Z : cJ hZ := by
  refine ⟨fun a k => ?_, fun i hi => ?_⟩
  · by_cases ha : a ∈ TL
    · by_cases hk : 16 ≤ k
      · unfold okc; rw [okt_TL ha hk]; trivial
      · exact okcB_of (List.all_eq_true.mp (List.all_eq_true.mp okc_all a ha) k (List.mem_range.mpr (by omega)))
    · rw [hZ_0 ha]; exact okc_0 a k
  · unfold Rg
    split
    · intro c hc j
      have h1 : hZ (c + 2) j = 0 := hZ_0 (by rcases hc with rfl | rfl <;> exact nTL (by decide))
      rw [h1]
      exact ⟨fun _ => ⟨by decide, by decide⟩, fun _ => ⟨by decide, by decide⟩⟩
    · decide +kernel
    · exact Or.inl (by decide +kernel)
    · trivial
theorem mI_Z : mI hZ := by
  intro a k
  by_cases h1 : a < 224
  · unfold omc; rw [omt_lo h1]; trivial
  · by_cases h2 : a = 224
    · subst h2
      by_cases hk : k < 103
      · have e := List.all_eq_true.mp omc_all k (List.mem_range.mpr hk)
        unfold omcB at e
        unfold omc
        show (match omt_o k with | none => True | some p => p.1 ≤ hZ 224 k ∧ hZ 224 k ≤ p.2)
        cases q : omt_o k with
        | none => trivial
        | some p => rw [q] at e; exact of_decide_eq_true e
      · have q : omt_o k = none := by unfold omt_o; split <;> first | rfl | omega
        unfold omc
        show (match omt_o k with | none => True | some p => p.1 ≤ hZ 224 k ∧ hZ 224 k ≤ p.2)
        rw [q]; trivial
    · rw [hZ_0 (nTL_hi (by omega))]; exact omc_0 a k
set_option maxRecDepth 20000 in
set_option maxHeartbeats 4000000 in
theorem t_X12_init {G : sw_G} (d : Nat) {hz : sw_H} (Ihz : mK (prW [38, 73, 74, 83, 99] [227, 228, 229, 230, 231, 232, 261, 289]) hz hz) (z36 : hz 224 36 = 0 ∧ hz 224 37 = 0) (hc : cJ hz) (z71 : hz 224 71 = -1) (z85 : hz 224 85 = -1) (z4 : ∀ k, hz 244 k = 0) (z5 : ∀ k, hz 245 k = 0) (ht : hz 0 12 = hz 224 100) : sw_E G NH SH (d + 2) mX12_init 538 [some (sw_r 224)] [] hz (sw_Qv PP) := by
  refine sx_aload_n dX12_init_538 rfl ?_
  refine sx_callVv lk_X12_218 cl_12 s_224 (by decide) dX12_init_539 (vs := []) rfl rfl (Nat.le_of_ble_eq_true rfl) (Nat.le_of_ble_eq_true rfl) rfl (c_X12_clearBank _ Ihz.1 1 (by omega)) (fun h1 ph1 => ?_)
  obtain ⟨Kh1, c_h1, e_h1⟩ := ph1
  have Ih1 := Ihz.tr Kh1 (prWB_sub rfl rfl)
  have th1_224_36 := Kh1.2 224 36 rfl
  have th1_224_37 := Kh1.2 224 37 rfl
  have th1_224_73 := Kh1.2 224 73 rfl
  have th1_224_74 := Kh1.2 224 74 rfl
  refine sx_aload_n dX12_init_542 rfl ?_
  refine sx_callVv lk_X12_221 cl_12 s_224 (by decide) dX12_init_543 (vs := []) rfl rfl (Nat.le_of_ble_eq_true rfl) (Nat.le_of_ble_eq_true rfl) rfl (c_X12_startAnew _ Ih1.1) (fun h3 ph3 => ?_)
  obtain ⟨Kh3, s_h3⟩ := ph3
  have Ih3 := Ih1.tr Kh3 (prW_sub rfl rfl)
  have th3_224_36 := Kh3.2 224 36 rfl
  have th3_224_37 := Kh3.2 224 37 rfl
  refine sx_ret dX12_init_546 ?_
  have w1 : h3 227 0 = 0 := by rw [show h3 227 0 = _ from Kh3.2 227 0 rfl]; have q := e_h1.1; rw [show (hz 224 37).toNat = 0 by omega] at q; exact q
  exact ⟨rfl, initP Ih3 hc (by omega) z71 z85 z4 z5 w1 (by omega) ht⟩
set_option maxRecDepth 20000 in
set_option maxHeartbeats 4000000 in
theorem k_224 {G : sw_G} (d : Nat) {h : sw_H} {Pw : sw_H → Prop} (hcv : ∀ H, va_P G.2.1 vwCl (sw_ws G 290 S2 (U_224 h)) H → va_P G.2.1 vwCl (sw_ws G 290 SH (U_224 h)) H) (hok : sw_okH SH (U_224 h)) (hE : sw_E G 290 SH (d + 2) mX12_init 538 [some (sw_r 224)] [] (U_224 h) (sw_Qv Pw)) : sw_N true G 225 (d + 2) mX12_init 0 [some (sw_r 224)] [] h 65 11776 (fun w => ∃ h1, w = sw_ws G 290 SH h1 ∧ sw_okH SH h1 ∧ Pw h1) := by
  refine sn_aload_n dX12_init_0 rfl ?_
  refine sn_obj wc_95 wc_1 wc_2 dX12_init_1 (Nat.le_of_ble_eq_true rfl) ?_
  refine sn_aload_n dX12_init_4 rfl ?_
  refine sn_sipush dX12_init_5 ⟨by decide, by decide, by decide⟩ ?_
  refine sm_newa (N := 225) (N2 := 226) (kc := 64) (ks := 10156) (t := 1) (atype := .byte) rfl rfl rfl rfl s2_225 (by decide) (fun _ => rfl) rfl (fun _ _ h => h) wc_33 dX12_init_8 (by decide) (by decide) (by decide) ?_
  refine sn_putR (k := 0) (t := 225) cl_12 fl_X12_7 dX12_init_10 s2_224 (by decide) rfl (by decide) (Or.inr ⟨rfl, rfl, rfl⟩) (Or.inr ⟨_, rfl⟩) (by decide) ?_
  refine sn_aload_n dX12_init_13 rfl ?_
  refine sn_sipush dX12_init_14 ⟨by decide, by decide, by decide⟩ ?_
  refine sm_newa (N := 226) (N2 := 227) (kc := 63) (ks := 8556) (t := 1) (atype := .byte) rfl rfl rfl rfl s2_226 (by decide) (fun _ => rfl) rfl (fun _ _ h => h) wc_33 dX12_init_17 (by decide) (by decide) (by decide) ?_
  refine sn_putR (k := 1) (t := 226) cl_12 fl_X12_13 dX12_init_19 s2_224 (by decide) rfl (by decide) (Or.inr ⟨rfl, rfl, rfl⟩) (Or.inr ⟨_, rfl⟩) (by decide) ?_
  refine sn_aload_n dX12_init_22 rfl ?_
  refine sn_iconst dX12_init_23 ⟨by decide, by decide⟩ ?_
  refine sn_putI (k := 5) (z := -1) cl_12 fl_X12_16 dX12_init_24 s2_224 (by decide) rfl (by decide) (Or.inl rfl) rfl ?_
  refine sn_aload_n dX12_init_27 rfl ?_
  refine sn_iconst dX12_init_28 ⟨by decide, by decide⟩ ?_
  refine sm_newa (N := 227) (N2 := 228) (kc := 62) (ks := 8554) (t := 0) (atype := .int) rfl rfl rfl rfl s2_227 (by decide) (fun _ => rfl) rfl (fun _ _ h => h) wc_7 dX12_init_29 (by decide) (by decide) (by decide) ?_
  refine sn_putR (k := 11) (t := 227) cl_12 fl_X12_20 dX12_init_31 s2_224 (by decide) rfl (by decide) (Or.inr ⟨rfl, rfl, rfl⟩) (Or.inr ⟨_, rfl⟩) (by decide) ?_
  refine sn_aload_n dX12_init_34 rfl ?_
  refine sn_iconst dX12_init_35 ⟨by decide, by decide⟩ ?_
  refine sm_newa (N := 228) (N2 := 229) (kc := 61) (ks := 8552) (t := 0) (atype := .int) rfl rfl rfl rfl s2_228 (by decide) (fun _ => rfl) rfl (fun _ _ h => h) wc_7 dX12_init_36 (by decide) (by decide) (by decide) ?_
  refine sn_putR (k := 12) (t := 228) cl_12 fl_X12_24 dX12_init_38 s2_224 (by decide) rfl (by decide) (Or.inr ⟨rfl, rfl, rfl⟩) (Or.inr ⟨_, rfl⟩) (by decide) ?_
  refine sn_aload_n dX12_init_41 rfl ?_
  refine sn_iconst dX12_init_42 ⟨by decide, by decide⟩ ?_
  refine sm_newa (N := 229) (N2 := 230) (kc := 60) (ks := 8550) (t := 0) (atype := .int) rfl rfl rfl rfl s2_229 (by decide) (fun _ => rfl) rfl (fun _ _ h => h) wc_7 dX12_init_43 (by decide) (by decide) (by decide) ?_
  refine sn_putR (k := 13) (t := 229) cl_12 fl_X12_27 dX12_init_45 s2_224 (by decide) rfl (by decide) (Or.inr ⟨rfl, rfl, rfl⟩) (Or.inr ⟨_, rfl⟩) (by decide) ?_
  refine sn_aload_n dX12_init_48 rfl ?_
  refine sn_iconst dX12_init_49 ⟨by decide, by decide⟩ ?_
  refine sm_newa (N := 230) (N2 := 231) (kc := 59) (ks := 8548) (t := 0) (atype := .int) rfl rfl rfl rfl s2_230 (by decide) (fun _ => rfl) rfl (fun _ _ h => h) wc_7 dX12_init_50 (by decide) (by decide) (by decide) ?_
  refine sn_putR (k := 14) (t := 230) cl_12 fl_X12_30 dX12_init_52 s2_224 (by decide) rfl (by decide) (Or.inr ⟨rfl, rfl, rfl⟩) (Or.inr ⟨_, rfl⟩) (by decide) ?_
  refine sn_aload_n dX12_init_55 rfl ?_
  refine sn_iconst dX12_init_56 ⟨by decide, by decide⟩ ?_
  refine sm_newa (N := 231) (N2 := 232) (kc := 58) (ks := 8546) (t := 0) (atype := .int) rfl rfl rfl rfl s2_231 (by decide) (fun _ => rfl) rfl (fun _ _ h => h) wc_7 dX12_init_57 (by decide) (by decide) (by decide) ?_
  refine sn_putR (k := 15) (t := 231) cl_12 fl_X12_33 dX12_init_59 s2_224 (by decide) rfl (by decide) (Or.inr ⟨rfl, rfl, rfl⟩) (Or.inr ⟨_, rfl⟩) (by decide) ?_
  refine sn_aload_n dX12_init_62 rfl ?_
  refine sn_iconst dX12_init_63 ⟨by decide, by decide⟩ ?_
  refine sm_newa (N := 232) (N2 := 233) (kc := 57) (ks := 8544) (t := 0) (atype := .int) rfl rfl rfl rfl s2_232 (by decide) (fun _ => rfl) rfl (fun _ _ h => h) wc_7 dX12_init_64 (by decide) (by decide) (by decide) ?_
  refine sn_putR (k := 16) (t := 232) cl_12 fl_X12_36 dX12_init_66 s2_224 (by decide) rfl (by decide) (Or.inr ⟨rfl, rfl, rfl⟩) (Or.inr ⟨_, rfl⟩) (by decide) ?_
  refine sn_aload_n dX12_init_69 rfl ?_
  refine sn_bipush dX12_init_70 ⟨by decide, by decide, by decide⟩ ?_
  refine sm_newa (N := 233) (N2 := 234) (kc := 56) (ks := 8532) (t := 0) (atype := .int) rfl rfl rfl rfl s2_233 (by decide) (fun _ => rfl) rfl (fun _ _ h => h) wc_7 dX12_init_72 (by decide) (by decide) (by decide) ?_
  refine sn_putR (k := 17) (t := 233) cl_12 fl_X12_39 dX12_init_74 s2_224 (by decide) rfl (by decide) (Or.inr ⟨rfl, rfl, rfl⟩) (Or.inr ⟨_, rfl⟩) (by decide) ?_
  refine sn_aload_n dX12_init_77 rfl ?_
  refine sn_bipush dX12_init_78 ⟨by decide, by decide, by decide⟩ ?_
  refine sm_newa (N := 234) (N2 := 235) (kc := 55) (ks := 8520) (t := 0) (atype := .int) rfl rfl rfl rfl s2_234 (by decide) (fun _ => rfl) rfl (fun _ _ h => h) wc_7 dX12_init_80 (by decide) (by decide) (by decide) ?_
  refine sn_putR (k := 18) (t := 234) cl_12 fl_X12_42 dX12_init_82 s2_224 (by decide) rfl (by decide) (Or.inr ⟨rfl, rfl, rfl⟩) (Or.inr ⟨_, rfl⟩) (by decide) ?_
  refine sn_aload_n dX12_init_85 rfl ?_
  refine sn_bipush dX12_init_86 ⟨by decide, by decide, by decide⟩ ?_
  refine sm_newa (N := 235) (N2 := 236) (kc := 54) (ks := 8508) (t := 0) (atype := .int) rfl rfl rfl rfl s2_235 (by decide) (fun _ => rfl) rfl (fun _ _ h => h) wc_7 dX12_init_88 (by decide) (by decide) (by decide) ?_
  refine sn_putR (k := 19) (t := 235) cl_12 fl_X12_45 dX12_init_90 s2_224 (by decide) rfl (by decide) (Or.inr ⟨rfl, rfl, rfl⟩) (Or.inr ⟨_, rfl⟩) (by decide) ?_
  refine sn_aload_n dX12_init_93 rfl ?_
  refine sn_bipush dX12_init_94 ⟨by decide, by decide, by decide⟩ ?_
  refine sm_newa (N := 236) (N2 := 237) (kc := 53) (ks := 8496) (t := 0) (atype := .int) rfl rfl rfl rfl s2_236 (by decide) (fun _ => rfl) rfl (fun _ _ h => h) wc_7 dX12_init_96 (by decide) (by decide) (by decide) ?_
  refine sn_putR (k := 20) (t := 236) cl_12 fl_X12_48 dX12_init_98 s2_224 (by decide) rfl (by decide) (Or.inr ⟨rfl, rfl, rfl⟩) (Or.inr ⟨_, rfl⟩) (by decide) ?_
  refine sn_aload_n dX12_init_101 rfl ?_
  refine sn_bipush dX12_init_102 ⟨by decide, by decide, by decide⟩ ?_
  refine sm_newa (N := 237) (N2 := 238) (kc := 52) (ks := 8484) (t := 0) (atype := .int) rfl rfl rfl rfl s2_237 (by decide) (fun _ => rfl) rfl (fun _ _ h => h) wc_7 dX12_init_104 (by decide) (by decide) (by decide) ?_
  refine sn_putR (k := 21) (t := 237) cl_12 fl_X12_51 dX12_init_106 s2_224 (by decide) rfl (by decide) (Or.inr ⟨rfl, rfl, rfl⟩) (Or.inr ⟨_, rfl⟩) (by decide) ?_
  refine sn_aload_n dX12_init_109 rfl ?_
  refine sn_bipush dX12_init_110 ⟨by decide, by decide, by decide⟩ ?_
  refine sm_newa (N := 238) (N2 := 239) (kc := 51) (ks := 8472) (t := 0) (atype := .int) rfl rfl rfl rfl s2_238 (by decide) (fun _ => rfl) rfl (fun _ _ h => h) wc_7 dX12_init_112 (by decide) (by decide) (by decide) ?_
  refine sn_putR (k := 22) (t := 238) cl_12 fl_X12_54 dX12_init_114 s2_224 (by decide) rfl (by decide) (Or.inr ⟨rfl, rfl, rfl⟩) (Or.inr ⟨_, rfl⟩) (by decide) ?_
  refine sn_aload_n dX12_init_117 rfl ?_
  refine sn_bipush dX12_init_118 ⟨by decide, by decide, by decide⟩ ?_
  refine sm_newa (N := 239) (N2 := 240) (kc := 50) (ks := 8460) (t := 0) (atype := .int) rfl rfl rfl rfl s2_239 (by decide) (fun _ => rfl) rfl (fun _ _ h => h) wc_7 dX12_init_120 (by decide) (by decide) (by decide) ?_
  refine sn_putR (k := 23) (t := 239) cl_12 fl_X12_57 dX12_init_122 s2_224 (by decide) rfl (by decide) (Or.inr ⟨rfl, rfl, rfl⟩) (Or.inr ⟨_, rfl⟩) (by decide) ?_
  refine sn_aload_n dX12_init_125 rfl ?_
  refine sn_bipush dX12_init_126 ⟨by decide, by decide, by decide⟩ ?_
  refine sm_newa (N := 240) (N2 := 241) (kc := 49) (ks := 8340) (t := 0) (atype := .int) rfl rfl rfl rfl s2_240 (by decide) (fun _ => rfl) rfl (fun _ _ h => h) wc_7 dX12_init_128 (by decide) (by decide) (by decide) ?_
  refine sn_putR (k := 24) (t := 240) cl_12 fl_X12_60 dX12_init_130 s2_224 (by decide) rfl (by decide) (Or.inr ⟨rfl, rfl, rfl⟩) (Or.inr ⟨_, rfl⟩) (by decide) ?_
  refine sn_aload_n dX12_init_133 rfl ?_
  refine sn_bipush dX12_init_134 ⟨by decide, by decide, by decide⟩ ?_
  refine sm_newa (N := 241) (N2 := 242) (kc := 48) (ks := 8220) (t := 0) (atype := .int) rfl rfl rfl rfl s2_241 (by decide) (fun _ => rfl) rfl (fun _ _ h => h) wc_7 dX12_init_136 (by decide) (by decide) (by decide) ?_
  refine sn_putR (k := 25) (t := 241) cl_12 fl_X12_63 dX12_init_138 s2_224 (by decide) rfl (by decide) (Or.inr ⟨rfl, rfl, rfl⟩) (Or.inr ⟨_, rfl⟩) (by decide) ?_
  refine sn_aload_n dX12_init_141 rfl ?_
  refine sn_bipush dX12_init_142 ⟨by decide, by decide, by decide⟩ ?_
  refine sm_newa (N := 242) (N2 := 243) (kc := 47) (ks := 8100) (t := 0) (atype := .int) rfl rfl rfl rfl s2_242 (by decide) (fun _ => rfl) rfl (fun _ _ h => h) wc_7 dX12_init_144 (by decide) (by decide) (by decide) ?_
  refine sn_putR (k := 26) (t := 242) cl_12 fl_X12_66 dX12_init_146 s2_224 (by decide) rfl (by decide) (Or.inr ⟨rfl, rfl, rfl⟩) (Or.inr ⟨_, rfl⟩) (by decide) ?_
  refine sn_aload_n dX12_init_149 rfl ?_
  refine sn_bipush dX12_init_150 ⟨by decide, by decide, by decide⟩ ?_
  refine sm_newa (N := 243) (N2 := 244) (kc := 46) (ks := 7980) (t := 0) (atype := .int) rfl rfl rfl rfl s2_243 (by decide) (fun _ => rfl) rfl (fun _ _ h => h) wc_7 dX12_init_152 (by decide) (by decide) (by decide) ?_
  refine sn_putR (k := 27) (t := 243) cl_12 fl_X12_69 dX12_init_154 s2_224 (by decide) rfl (by decide) (Or.inr ⟨rfl, rfl, rfl⟩) (Or.inr ⟨_, rfl⟩) (by decide) ?_
  refine sn_aload_n dX12_init_157 rfl ?_
  refine sn_iconst dX12_init_158 ⟨by decide, by decide⟩ ?_
  refine sm_newa (N := 244) (N2 := 245) (kc := 45) (ks := 7978) (t := 0) (atype := .int) rfl rfl rfl rfl s2_244 (by decide) (fun _ => rfl) rfl (fun _ _ h => h) wc_7 dX12_init_159 (by decide) (by decide) (by decide) ?_
  refine sn_putR (k := 28) (t := 244) cl_12 fl_X12_72 dX12_init_161 s2_224 (by decide) rfl (by decide) (Or.inr ⟨rfl, rfl, rfl⟩) (Or.inr ⟨_, rfl⟩) (by decide) ?_
  refine sn_aload_n dX12_init_164 rfl ?_
  refine sn_iconst dX12_init_165 ⟨by decide, by decide⟩ ?_
  refine sm_newa (N := 245) (N2 := 246) (kc := 44) (ks := 7976) (t := 0) (atype := .int) rfl rfl rfl rfl s2_245 (by decide) (fun _ => rfl) rfl (fun _ _ h => h) wc_7 dX12_init_166 (by decide) (by decide) (by decide) ?_
  refine sn_putR (k := 29) (t := 245) cl_12 fl_X12_75 dX12_init_168 s2_224 (by decide) rfl (by decide) (Or.inr ⟨rfl, rfl, rfl⟩) (Or.inr ⟨_, rfl⟩) (by decide) ?_
  refine sn_aload_n dX12_init_171 rfl ?_
  refine sn_bipush dX12_init_172 ⟨by decide, by decide, by decide⟩ ?_
  refine sm_newl (N := 246) (N2 := 247) (kc := 43) (ks := 7964) rfl rfl rfl rfl s2_246 wc_51 dX12_init_174 (by decide) (by decide) ?_
  refine sn_putR (k := 30) (t := 246) cl_12 fl_X12_78 dX12_init_176 s2_224 (by decide) rfl (by decide) (Or.inr ⟨rfl, rfl, rfl⟩) (Or.inr ⟨_, rfl⟩) (by decide) ?_
  refine sn_aload_n dX12_init_179 rfl ?_
  refine sn_sipush dX12_init_180 ⟨by decide, by decide, by decide⟩ ?_
  refine sm_newa (N := 247) (N2 := 248) (kc := 42) (ks := 6844) (t := 0) (atype := .int) rfl rfl rfl rfl s2_247 (by decide) (fun _ => rfl) rfl (fun _ _ h => h) wc_7 dX12_init_183 (by decide) (by decide) (by decide) ?_
  refine sn_putR (k := 31) (t := 247) cl_12 fl_X12_82 dX12_init_185 s2_224 (by decide) rfl (by decide) (Or.inr ⟨rfl, rfl, rfl⟩) (Or.inr ⟨_, rfl⟩) (by decide) ?_
  refine sn_aload_n dX12_init_188 rfl ?_
  refine sn_sipush dX12_init_189 ⟨by decide, by decide, by decide⟩ ?_
  refine sm_newa (N := 248) (N2 := 249) (kc := 41) (ks := 5724) (t := 0) (atype := .int) rfl rfl rfl rfl s2_248 (by decide) (fun _ => rfl) rfl (fun _ _ h => h) wc_7 dX12_init_192 (by decide) (by decide) (by decide) ?_
  refine sn_putR (k := 32) (t := 248) cl_12 fl_X12_85 dX12_init_194 s2_224 (by decide) rfl (by decide) (Or.inr ⟨rfl, rfl, rfl⟩) (Or.inr ⟨_, rfl⟩) (by decide) ?_
  refine sn_aload_n dX12_init_197 rfl ?_
  refine sn_bipush dX12_init_198 ⟨by decide, by decide, by decide⟩ ?_
  refine sm_newa (N := 249) (N2 := 250) (kc := 40) (ks := 5634) (t := 0) (atype := .int) rfl rfl rfl rfl s2_249 (by decide) (fun _ => rfl) rfl (fun _ _ h => h) wc_7 dX12_init_200 (by decide) (by decide) (by decide) ?_
  refine sn_putR (k := 33) (t := 249) cl_12 fl_X12_88 dX12_init_202 s2_224 (by decide) rfl (by decide) (Or.inr ⟨rfl, rfl, rfl⟩) (Or.inr ⟨_, rfl⟩) (by decide) ?_
  refine sn_aload_n dX12_init_205 rfl ?_
  refine sn_bipush dX12_init_206 ⟨by decide, by decide, by decide⟩ ?_
  refine sm_newa (N := 250) (N2 := 251) (kc := 39) (ks := 5544) (t := 0) (atype := .int) rfl rfl rfl rfl s2_250 (by decide) (fun _ => rfl) rfl (fun _ _ h => h) wc_7 dX12_init_208 (by decide) (by decide) (by decide) ?_
  refine sn_putR (k := 34) (t := 250) cl_12 fl_X12_91 dX12_init_210 s2_224 (by decide) rfl (by decide) (Or.inr ⟨rfl, rfl, rfl⟩) (Or.inr ⟨_, rfl⟩) (by decide) ?_
  refine sn_aload_n dX12_init_213 rfl ?_
  refine sn_bipush dX12_init_214 ⟨by decide, by decide, by decide⟩ ?_
  refine sm_newa (N := 251) (N2 := 252) (kc := 38) (ks := 5484) (t := 0) (atype := .int) rfl rfl rfl rfl s2_251 (by decide) (fun _ => rfl) rfl (fun _ _ h => h) wc_7 dX12_init_216 (by decide) (by decide) (by decide) ?_
  refine sn_putR (k := 35) (t := 251) cl_12 fl_X12_94 dX12_init_218 s2_224 (by decide) rfl (by decide) (Or.inr ⟨rfl, rfl, rfl⟩) (Or.inr ⟨_, rfl⟩) (by decide) ?_
  refine sn_aload_n dX12_init_221 rfl ?_
  refine sn_bipush dX12_init_222 ⟨by decide, by decide, by decide⟩ ?_
  refine sm_newa (N := 252) (N2 := 253) (kc := 37) (ks := 5478) (t := 0) (atype := .int) rfl rfl rfl rfl s2_252 (by decide) (fun _ => rfl) rfl (fun _ _ h => h) wc_7 dX12_init_224 (by decide) (by decide) (by decide) ?_
  refine sn_putR (k := 42) (t := 252) cl_12 fl_X12_97 dX12_init_226 s2_224 (by decide) rfl (by decide) (Or.inr ⟨rfl, rfl, rfl⟩) (Or.inr ⟨_, rfl⟩) (by decide) ?_
  refine sn_aload_n dX12_init_229 rfl ?_
  refine sn_bipush dX12_init_230 ⟨by decide, by decide, by decide⟩ ?_
  refine sm_newa (N := 253) (N2 := 254) (kc := 36) (ks := 5472) (t := 0) (atype := .int) rfl rfl rfl rfl s2_253 (by decide) (fun _ => rfl) rfl (fun _ _ h => h) wc_7 dX12_init_232 (by decide) (by decide) (by decide) ?_
  refine sn_putR (k := 43) (t := 253) cl_12 fl_X12_100 dX12_init_234 s2_224 (by decide) rfl (by decide) (Or.inr ⟨rfl, rfl, rfl⟩) (Or.inr ⟨_, rfl⟩) (by decide) ?_
  refine sn_aload_n dX12_init_237 rfl ?_
  refine sn_bipush dX12_init_238 ⟨by decide, by decide, by decide⟩ ?_
  refine sm_newa (N := 254) (N2 := 255) (kc := 35) (ks := 5466) (t := 0) (atype := .int) rfl rfl rfl rfl s2_254 (by decide) (fun _ => rfl) rfl (fun _ _ h => h) wc_7 dX12_init_240 (by decide) (by decide) (by decide) ?_
  refine sn_putR (k := 44) (t := 254) cl_12 fl_X12_103 dX12_init_242 s2_224 (by decide) rfl (by decide) (Or.inr ⟨rfl, rfl, rfl⟩) (Or.inr ⟨_, rfl⟩) (by decide) ?_
  refine sn_aload_n dX12_init_245 rfl ?_
  refine sn_bipush dX12_init_246 ⟨by decide, by decide, by decide⟩ ?_
  refine sm_newa (N := 255) (N2 := 256) (kc := 34) (ks := 5460) (t := 0) (atype := .int) rfl rfl rfl rfl s2_255 (by decide) (fun _ => rfl) rfl (fun _ _ h => h) wc_7 dX12_init_248 (by decide) (by decide) (by decide) ?_
  refine sn_putR (k := 45) (t := 255) cl_12 fl_X12_106 dX12_init_250 s2_224 (by decide) rfl (by decide) (Or.inr ⟨rfl, rfl, rfl⟩) (Or.inr ⟨_, rfl⟩) (by decide) ?_
  refine sn_aload_n dX12_init_253 rfl ?_
  refine sn_bipush dX12_init_254 ⟨by decide, by decide, by decide⟩ ?_
  refine sm_newa (N := 256) (N2 := 257) (kc := 33) (ks := 5454) (t := 0) (atype := .int) rfl rfl rfl rfl s2_256 (by decide) (fun _ => rfl) rfl (fun _ _ h => h) wc_7 dX12_init_256 (by decide) (by decide) (by decide) ?_
  refine sn_putR (k := 46) (t := 256) cl_12 fl_X12_109 dX12_init_258 s2_224 (by decide) rfl (by decide) (Or.inr ⟨rfl, rfl, rfl⟩) (Or.inr ⟨_, rfl⟩) (by decide) ?_
  refine sn_aload_n dX12_init_261 rfl ?_
  refine sn_bipush dX12_init_262 ⟨by decide, by decide, by decide⟩ ?_
  refine sm_newa (N := 257) (N2 := 258) (kc := 32) (ks := 5448) (t := 0) (atype := .int) rfl rfl rfl rfl s2_257 (by decide) (fun _ => rfl) rfl (fun _ _ h => h) wc_7 dX12_init_264 (by decide) (by decide) (by decide) ?_
  refine sn_putR (k := 47) (t := 257) cl_12 fl_X12_112 dX12_init_266 s2_224 (by decide) rfl (by decide) (Or.inr ⟨rfl, rfl, rfl⟩) (Or.inr ⟨_, rfl⟩) (by decide) ?_
  refine sn_aload_n dX12_init_269 rfl ?_
  refine sn_bipush dX12_init_270 ⟨by decide, by decide, by decide⟩ ?_
  refine sm_newa (N := 258) (N2 := 259) (kc := 31) (ks := 5442) (t := 0) (atype := .int) rfl rfl rfl rfl s2_258 (by decide) (fun _ => rfl) rfl (fun _ _ h => h) wc_7 dX12_init_272 (by decide) (by decide) (by decide) ?_
  refine sn_putR (k := 48) (t := 258) cl_12 fl_X12_115 dX12_init_274 s2_224 (by decide) rfl (by decide) (Or.inr ⟨rfl, rfl, rfl⟩) (Or.inr ⟨_, rfl⟩) (by decide) ?_
  refine sn_aload_n dX12_init_277 rfl ?_
  refine sn_bipush dX12_init_278 ⟨by decide, by decide, by decide⟩ ?_
  refine sm_newa (N := 259) (N2 := 260) (kc := 30) (ks := 5436) (t := 0) (atype := .int) rfl rfl rfl rfl s2_259 (by decide) (fun _ => rfl) rfl (fun _ _ h => h) wc_7 dX12_init_280 (by decide) (by decide) (by decide) ?_
  refine sn_putR (k := 49) (t := 259) cl_12 fl_X12_118 dX12_init_282 s2_224 (by decide) rfl (by decide) (Or.inr ⟨rfl, rfl, rfl⟩) (Or.inr ⟨_, rfl⟩) (by decide) ?_
  refine sn_aload_n dX12_init_285 rfl ?_
  refine sn_bipush dX12_init_286 ⟨by decide, by decide, by decide⟩ ?_
  refine sm_newa (N := 260) (N2 := 261) (kc := 29) (ks := 5430) (t := 0) (atype := .int) rfl rfl rfl rfl s2_260 (by decide) (fun _ => rfl) rfl (fun _ _ h => h) wc_7 dX12_init_288 (by decide) (by decide) (by decide) ?_
  refine sn_putR (k := 50) (t := 260) cl_12 fl_X12_121 dX12_init_290 s2_224 (by decide) rfl (by decide) (Or.inr ⟨rfl, rfl, rfl⟩) (Or.inr ⟨_, rfl⟩) (by decide) ?_
  refine sn_aload_n dX12_init_293 rfl ?_
  refine sn_bipush dX12_init_294 ⟨by decide, by decide, by decide⟩ ?_
  refine sm_newa (N := 261) (N2 := 262) (kc := 28) (ks := 5396) (t := 0) (atype := .int) rfl rfl rfl rfl s2_261 (by decide) (fun _ => rfl) rfl (fun _ _ h => h) wc_7 dX12_init_296 (by decide) (by decide) (by decide) ?_
  refine sn_putR (k := 61) (t := 261) cl_12 fl_X12_124 dX12_init_298 s2_224 (by decide) rfl (by decide) (Or.inr ⟨rfl, rfl, rfl⟩) (Or.inr ⟨_, rfl⟩) (by decide) ?_
  refine sn_aload_n dX12_init_301 rfl ?_
  refine sn_bipush dX12_init_302 ⟨by decide, by decide, by decide⟩ ?_
  refine sm_newa (N := 262) (N2 := 263) (kc := 27) (ks := 5300) (t := 0) (atype := .int) rfl rfl rfl rfl s2_262 (by decide) (fun _ => rfl) rfl (fun _ _ h => h) wc_7 dX12_init_304 (by decide) (by decide) (by decide) ?_
  refine sn_putR (k := 62) (t := 262) cl_12 fl_X12_127 dX12_init_306 s2_224 (by decide) rfl (by decide) (Or.inr ⟨rfl, rfl, rfl⟩) (Or.inr ⟨_, rfl⟩) (by decide) ?_
  refine sn_aload_n dX12_init_309 rfl ?_
  refine sn_bipush dX12_init_310 ⟨by decide, by decide, by decide⟩ ?_
  refine sm_newa (N := 263) (N2 := 264) (kc := 26) (ks := 5204) (t := 0) (atype := .int) rfl rfl rfl rfl s2_263 (by decide) (fun _ => rfl) rfl (fun _ _ h => h) wc_7 dX12_init_312 (by decide) (by decide) (by decide) ?_
  refine sn_putR (k := 63) (t := 263) cl_12 fl_X12_130 dX12_init_314 s2_224 (by decide) rfl (by decide) (Or.inr ⟨rfl, rfl, rfl⟩) (Or.inr ⟨_, rfl⟩) (by decide) ?_
  refine sn_aload_n dX12_init_317 rfl ?_
  refine sn_bipush dX12_init_318 ⟨by decide, by decide, by decide⟩ ?_
  refine sm_newa (N := 264) (N2 := 265) (kc := 25) (ks := 5196) (t := 0) (atype := .int) rfl rfl rfl rfl s2_264 (by decide) (fun _ => rfl) rfl (fun _ _ h => h) wc_7 dX12_init_320 (by decide) (by decide) (by decide) ?_
  refine sn_putR (k := 64) (t := 264) cl_12 fl_X12_133 dX12_init_322 s2_224 (by decide) rfl (by decide) (Or.inr ⟨rfl, rfl, rfl⟩) (Or.inr ⟨_, rfl⟩) (by decide) ?_
  refine sn_aload_n dX12_init_325 rfl ?_
  refine sn_bipush dX12_init_326 ⟨by decide, by decide, by decide⟩ ?_
  refine sm_newa (N := 265) (N2 := 266) (kc := 24) (ks := 5188) (t := 0) (atype := .int) rfl rfl rfl rfl s2_265 (by decide) (fun _ => rfl) rfl (fun _ _ h => h) wc_7 dX12_init_328 (by decide) (by decide) (by decide) ?_
  refine sn_putR (k := 65) (t := 265) cl_12 fl_X12_136 dX12_init_330 s2_224 (by decide) rfl (by decide) (Or.inr ⟨rfl, rfl, rfl⟩) (Or.inr ⟨_, rfl⟩) (by decide) ?_
  refine sn_aload_n dX12_init_333 rfl ?_
  refine sn_bipush dX12_init_334 ⟨by decide, by decide, by decide⟩ ?_
  refine sm_newa (N := 266) (N2 := 267) (kc := 23) (ks := 5140) (t := 0) (atype := .int) rfl rfl rfl rfl s2_266 (by decide) (fun _ => rfl) rfl (fun _ _ h => h) wc_7 dX12_init_336 (by decide) (by decide) (by decide) ?_
  refine sn_putR (k := 66) (t := 266) cl_12 fl_X12_139 dX12_init_338 s2_224 (by decide) rfl (by decide) (Or.inr ⟨rfl, rfl, rfl⟩) (Or.inr ⟨_, rfl⟩) (by decide) ?_
  refine sn_aload_n dX12_init_341 rfl ?_
  refine sn_iconst dX12_init_342 ⟨by decide, by decide⟩ ?_
  refine sn_putI (k := 71) (z := -1) cl_12 fl_X12_142 dX12_init_343 s2_224 (by decide) rfl (by decide) (Or.inl rfl) rfl ?_
  refine sn_aload_n dX12_init_346 rfl ?_
  refine sn_sipush dX12_init_347 ⟨by decide, by decide, by decide⟩ ?_
  refine sm_newa (N := 267) (N2 := 268) (kc := 22) (ks := 3746) (t := 0) (atype := .int) rfl rfl rfl rfl s2_267 (by decide) (fun _ => rfl) rfl (fun _ _ h => h) wc_7 dX12_init_350 (by decide) (by decide) (by decide) ?_
  refine sn_putR (k := 72) (t := 267) cl_12 fl_X12_145 dX12_init_352 s2_224 (by decide) rfl (by decide) (Or.inr ⟨rfl, rfl, rfl⟩) (Or.inr ⟨_, rfl⟩) (by decide) ?_
  refine sn_aload_n dX12_init_355 rfl ?_
  refine sn_bipush dX12_init_356 ⟨by decide, by decide, by decide⟩ ?_
  refine sm_newa (N := 268) (N2 := 269) (kc := 21) (ks := 3740) (t := 0) (atype := .int) rfl rfl rfl rfl s2_268 (by decide) (fun _ => rfl) rfl (fun _ _ h => h) wc_7 dX12_init_358 (by decide) (by decide) (by decide) ?_
  refine sn_putR (k := 75) (t := 268) cl_12 fl_X12_148 dX12_init_360 s2_224 (by decide) rfl (by decide) (Or.inr ⟨rfl, rfl, rfl⟩) (Or.inr ⟨_, rfl⟩) (by decide) ?_
  refine sn_aload_n dX12_init_363 rfl ?_
  refine sn_bipush dX12_init_364 ⟨by decide, by decide, by decide⟩ ?_
  refine sm_newa (N := 269) (N2 := 270) (kc := 20) (ks := 3716) (t := 0) (atype := .int) rfl rfl rfl rfl s2_269 (by decide) (fun _ => rfl) rfl (fun _ _ h => h) wc_7 dX12_init_366 (by decide) (by decide) (by decide) ?_
  refine sn_putR (k := 76) (t := 269) cl_12 fl_X12_151 dX12_init_368 s2_224 (by decide) rfl (by decide) (Or.inr ⟨rfl, rfl, rfl⟩) (Or.inr ⟨_, rfl⟩) (by decide) ?_
  refine sn_aload_n dX12_init_371 rfl ?_
  refine sn_sipush dX12_init_372 ⟨by decide, by decide, by decide⟩ ?_
  refine sm_newa (N := 270) (N2 := 271) (kc := 19) (ks := 3352) (t := 0) (atype := .int) rfl rfl rfl rfl s2_270 (by decide) (fun _ => rfl) rfl (fun _ _ h => h) wc_7 dX12_init_375 (by decide) (by decide) (by decide) ?_
  refine sn_putR (k := 77) (t := 270) cl_12 fl_X12_154 dX12_init_377 s2_224 (by decide) rfl (by decide) (Or.inr ⟨rfl, rfl, rfl⟩) (Or.inr ⟨_, rfl⟩) (by decide) ?_
  refine sn_aload_n dX12_init_380 rfl ?_
  refine sn_sipush dX12_init_381 ⟨by decide, by decide, by decide⟩ ?_
  refine sm_newa (N := 271) (N2 := 272) (kc := 18) (ks := 2988) (t := 0) (atype := .int) rfl rfl rfl rfl s2_271 (by decide) (fun _ => rfl) rfl (fun _ _ h => h) wc_7 dX12_init_384 (by decide) (by decide) (by decide) ?_
  refine sn_putR (k := 78) (t := 271) cl_12 fl_X12_157 dX12_init_386 s2_224 (by decide) rfl (by decide) (Or.inr ⟨rfl, rfl, rfl⟩) (Or.inr ⟨_, rfl⟩) (by decide) ?_
  refine sn_aload_n dX12_init_389 rfl ?_
  refine sn_sipush dX12_init_390 ⟨by decide, by decide, by decide⟩ ?_
  refine sm_newa (N := 272) (N2 := 273) (kc := 17) (ks := 440) (t := 0) (atype := .int) rfl rfl rfl rfl s2_272 (by decide) (fun _ => rfl) rfl (fun _ _ h => h) wc_7 dX12_init_393 (by decide) (by decide) (by decide) ?_
  refine sn_putR (k := 80) (t := 272) cl_12 fl_X12_160 dX12_init_395 s2_224 (by decide) rfl (by decide) (Or.inr ⟨rfl, rfl, rfl⟩) (Or.inr ⟨_, rfl⟩) (by decide) ?_
  refine sn_aload_n dX12_init_398 rfl ?_
  refine sn_bipush dX12_init_399 ⟨by decide, by decide, by decide⟩ ?_
  refine sm_newa (N := 273) (N2 := 274) (kc := 16) (ks := 433) (t := 0) (atype := .int) rfl rfl rfl rfl s2_273 (by decide) (fun _ => rfl) rfl (fun _ _ h => h) wc_7 dX12_init_401 (by decide) (by decide) (by decide) ?_
  refine sn_putR (k := 81) (t := 273) cl_12 fl_X12_163 dX12_init_403 s2_224 (by decide) rfl (by decide) (Or.inr ⟨rfl, rfl, rfl⟩) (Or.inr ⟨_, rfl⟩) (by decide) ?_
  refine sn_aload_n dX12_init_406 rfl ?_
  refine sn_bipush dX12_init_407 ⟨by decide, by decide, by decide⟩ ?_
  refine sm_newa (N := 274) (N2 := 275) (kc := 15) (ks := 369) (t := 0) (atype := .int) rfl rfl rfl rfl s2_274 (by decide) (fun _ => rfl) rfl (fun _ _ h => h) wc_7 dX12_init_409 (by decide) (by decide) (by decide) ?_
  refine sn_putR (k := 82) (t := 274) cl_12 fl_X12_166 dX12_init_411 s2_224 (by decide) rfl (by decide) (Or.inr ⟨rfl, rfl, rfl⟩) (Or.inr ⟨_, rfl⟩) (by decide) ?_
  refine sn_aload_n dX12_init_414 rfl ?_
  refine sn_iconst dX12_init_415 ⟨by decide, by decide⟩ ?_
  refine sn_putI (k := 85) (z := -1) cl_12 fl_X12_169 dX12_init_416 s2_224 (by decide) rfl (by decide) (Or.inl rfl) rfl ?_
  refine sn_aload_n dX12_init_419 rfl ?_
  refine sn_bipush dX12_init_420 ⟨by decide, by decide, by decide⟩ ?_
  refine sm_newa (N := 275) (N2 := 276) (kc := 14) (ks := 363) (t := 0) (atype := .int) rfl rfl rfl rfl s2_275 (by decide) (fun _ => rfl) rfl (fun _ _ h => h) wc_7 dX12_init_422 (by decide) (by decide) (by decide) ?_
  refine sn_putR (k := 86) (t := 275) cl_12 fl_X12_172 dX12_init_424 s2_224 (by decide) rfl (by decide) (Or.inr ⟨rfl, rfl, rfl⟩) (Or.inr ⟨_, rfl⟩) (by decide) ?_
  refine sn_aload_n dX12_init_427 rfl ?_
  refine sn_bipush dX12_init_428 ⟨by decide, by decide, by decide⟩ ?_
  refine sm_newa (N := 276) (N2 := 277) (kc := 13) (ks := 357) (t := 0) (atype := .int) rfl rfl rfl rfl s2_276 (by decide) (fun _ => rfl) rfl (fun _ _ h => h) wc_7 dX12_init_430 (by decide) (by decide) (by decide) ?_
  refine sn_putR (k := 87) (t := 276) cl_12 fl_X12_175 dX12_init_432 s2_224 (by decide) rfl (by decide) (Or.inr ⟨rfl, rfl, rfl⟩) (Or.inr ⟨_, rfl⟩) (by decide) ?_
  refine sn_aload_n dX12_init_435 rfl ?_
  refine sn_bipush dX12_init_436 ⟨by decide, by decide, by decide⟩ ?_
  refine sm_newa (N := 277) (N2 := 278) (kc := 12) (ks := 351) (t := 0) (atype := .int) rfl rfl rfl rfl s2_277 (by decide) (fun _ => rfl) rfl (fun _ _ h => h) wc_7 dX12_init_438 (by decide) (by decide) (by decide) ?_
  refine sn_putR (k := 88) (t := 277) cl_12 fl_X12_178 dX12_init_440 s2_224 (by decide) rfl (by decide) (Or.inr ⟨rfl, rfl, rfl⟩) (Or.inr ⟨_, rfl⟩) (by decide) ?_
  refine sn_aload_n dX12_init_443 rfl ?_
  refine sn_bipush dX12_init_444 ⟨by decide, by decide, by decide⟩ ?_
  refine sm_newa (N := 278) (N2 := 279) (kc := 11) (ks := 345) (t := 0) (atype := .int) rfl rfl rfl rfl s2_278 (by decide) (fun _ => rfl) rfl (fun _ _ h => h) wc_7 dX12_init_446 (by decide) (by decide) (by decide) ?_
  refine sn_putR (k := 89) (t := 278) cl_12 fl_X12_181 dX12_init_448 s2_224 (by decide) rfl (by decide) (Or.inr ⟨rfl, rfl, rfl⟩) (Or.inr ⟨_, rfl⟩) (by decide) ?_
  refine sn_aload_n dX12_init_451 rfl ?_
  refine sn_bipush dX12_init_452 ⟨by decide, by decide, by decide⟩ ?_
  refine sm_newa (N := 279) (N2 := 280) (kc := 10) (ks := 315) (t := 0) (atype := .int) rfl rfl rfl rfl s2_279 (by decide) (fun _ => rfl) rfl (fun _ _ h => h) wc_7 dX12_init_454 (by decide) (by decide) (by decide) ?_
  refine sn_putR (k := 90) (t := 279) cl_12 fl_X12_184 dX12_init_456 s2_224 (by decide) rfl (by decide) (Or.inr ⟨rfl, rfl, rfl⟩) (Or.inr ⟨_, rfl⟩) (by decide) ?_
  refine sn_aload_n dX12_init_459 rfl ?_
  refine sn_bipush dX12_init_460 ⟨by decide, by decide, by decide⟩ ?_
  refine sm_newa (N := 280) (N2 := 281) (kc := 9) (ks := 285) (t := 0) (atype := .int) rfl rfl rfl rfl s2_280 (by decide) (fun _ => rfl) rfl (fun _ _ h => h) wc_7 dX12_init_462 (by decide) (by decide) (by decide) ?_
  refine sn_putR (k := 91) (t := 280) cl_12 fl_X12_187 dX12_init_464 s2_224 (by decide) rfl (by decide) (Or.inr ⟨rfl, rfl, rfl⟩) (Or.inr ⟨_, rfl⟩) (by decide) ?_
  refine sn_aload_n dX12_init_467 rfl ?_
  refine sn_bipush dX12_init_468 ⟨by decide, by decide, by decide⟩ ?_
  refine sm_newa (N := 281) (N2 := 282) (kc := 8) (ks := 255) (t := 0) (atype := .int) rfl rfl rfl rfl s2_281 (by decide) (fun _ => rfl) rfl (fun _ _ h => h) wc_7 dX12_init_470 (by decide) (by decide) (by decide) ?_
  refine sn_putR (k := 92) (t := 281) cl_12 fl_X12_190 dX12_init_472 s2_224 (by decide) rfl (by decide) (Or.inr ⟨rfl, rfl, rfl⟩) (Or.inr ⟨_, rfl⟩) (by decide) ?_
  refine sn_aload_n dX12_init_475 rfl ?_
  refine sn_bipush dX12_init_476 ⟨by decide, by decide, by decide⟩ ?_
  refine sm_newa (N := 282) (N2 := 283) (kc := 7) (ks := 225) (t := 0) (atype := .int) rfl rfl rfl rfl s2_282 (by decide) (fun _ => rfl) rfl (fun _ _ h => h) wc_7 dX12_init_478 (by decide) (by decide) (by decide) ?_
  refine sn_putR (k := 93) (t := 282) cl_12 fl_X12_193 dX12_init_480 s2_224 (by decide) rfl (by decide) (Or.inr ⟨rfl, rfl, rfl⟩) (Or.inr ⟨_, rfl⟩) (by decide) ?_
  refine sn_aload_n dX12_init_483 rfl ?_
  refine sn_bipush dX12_init_484 ⟨by decide, by decide, by decide⟩ ?_
  refine sm_newa (N := 283) (N2 := 284) (kc := 6) (ks := 195) (t := 0) (atype := .int) rfl rfl rfl rfl s2_283 (by decide) (fun _ => rfl) rfl (fun _ _ h => h) wc_7 dX12_init_486 (by decide) (by decide) (by decide) ?_
  refine sn_putR (k := 94) (t := 283) cl_12 fl_X12_196 dX12_init_488 s2_224 (by decide) rfl (by decide) (Or.inr ⟨rfl, rfl, rfl⟩) (Or.inr ⟨_, rfl⟩) (by decide) ?_
  refine sn_aload_n dX12_init_491 rfl ?_
  refine sn_bipush dX12_init_492 ⟨by decide, by decide, by decide⟩ ?_
  refine sm_newa (N := 284) (N2 := 285) (kc := 5) (ks := 165) (t := 0) (atype := .int) rfl rfl rfl rfl s2_284 (by decide) (fun _ => rfl) rfl (fun _ _ h => h) wc_7 dX12_init_494 (by decide) (by decide) (by decide) ?_
  refine sn_putR (k := 95) (t := 284) cl_12 fl_X12_199 dX12_init_496 s2_224 (by decide) rfl (by decide) (Or.inr ⟨rfl, rfl, rfl⟩) (Or.inr ⟨_, rfl⟩) (by decide) ?_
  refine sn_aload_n dX12_init_499 rfl ?_
  refine sn_bipush dX12_init_500 ⟨by decide, by decide, by decide⟩ ?_
  refine sm_newa (N := 285) (N2 := 286) (kc := 4) (ks := 135) (t := 0) (atype := .int) rfl rfl rfl rfl s2_285 (by decide) (fun _ => rfl) rfl (fun _ _ h => h) wc_7 dX12_init_502 (by decide) (by decide) (by decide) ?_
  refine sn_putR (k := 96) (t := 285) cl_12 fl_X12_202 dX12_init_504 s2_224 (by decide) rfl (by decide) (Or.inr ⟨rfl, rfl, rfl⟩) (Or.inr ⟨_, rfl⟩) (by decide) ?_
  refine sn_aload_n dX12_init_507 rfl ?_
  refine sn_bipush dX12_init_508 ⟨by decide, by decide, by decide⟩ ?_
  refine sm_newa (N := 286) (N2 := 287) (kc := 3) (ks := 120) (t := 0) (atype := .int) rfl rfl rfl rfl s2_286 (by decide) (fun _ => rfl) rfl (fun _ _ h => h) wc_7 dX12_init_510 (by decide) (by decide) (by decide) ?_
  refine sn_putR (k := 97) (t := 286) cl_12 fl_X12_205 dX12_init_512 s2_224 (by decide) rfl (by decide) (Or.inr ⟨rfl, rfl, rfl⟩) (Or.inr ⟨_, rfl⟩) (by decide) ?_
  refine sn_aload_n dX12_init_515 rfl ?_
  refine sn_bipush dX12_init_516 ⟨by decide, by decide, by decide⟩ ?_
  refine sm_newa (N := 287) (N2 := 288) (kc := 2) (ks := 105) (t := 2) (atype := .boolean) rfl rfl rfl rfl s2_287 (by decide) (fun _ => rfl) rfl (fun _ _ h => h) wc_91 dX12_init_518 (by decide) (by decide) (by decide) ?_
  refine sn_putR (k := 98) (t := 287) cl_12 fl_X12_208 dX12_init_520 s2_224 (by decide) rfl (by decide) (Or.inr ⟨rfl, rfl, rfl⟩) (Or.inr ⟨_, rfl⟩) (by decide) ?_
  refine sn_aload_n dX12_init_523 rfl ?_
  refine sn_bipush dX12_init_524 ⟨by decide, by decide, by decide⟩ ?_
  refine sm_newa (N := 288) (N2 := 289) (kc := 1) (ks := 3) (t := 0) (atype := .int) rfl rfl rfl rfl s2_288 (by decide) (fun _ => rfl) rfl (fun _ _ h => h) wc_7 dX12_init_526 (by decide) (by decide) (by decide) ?_
  refine sn_putR (k := 101) (t := 288) cl_12 fl_X12_212 dX12_init_528 s2_224 (by decide) rfl (by decide) (Or.inr ⟨rfl, rfl, rfl⟩) (Or.inr ⟨_, rfl⟩) (by decide) ?_
  refine sn_aload_n dX12_init_531 rfl ?_
  refine sn_iconst dX12_init_532 ⟨by decide, by decide⟩ ?_
  refine sm_newa (N := 289) (N2 := 290) (kc := 0) (ks := 0) (t := 2) (atype := .boolean) rfl rfl rfl rfl s2_289 (by decide) (fun _ => rfl) rfl (fun _ _ h => h) wc_91 dX12_init_533 (by decide) (by decide) (by decide) ?_
  refine sn_putR (k := 102) (t := 289) cl_12 fl_X12_215 dX12_init_535 s2_224 (by decide) rfl (by decide) (Or.inr ⟨rfl, rfl, rfl⟩) (Or.inr ⟨_, rfl⟩) (by decide) ?_
  exact sn_E hcv hok hE
theorem k_Z {G : sw_G} (d : Nat) : sw_N true G 225 (d + 2) mX12_init 0 [some (sw_r 224)] [] (U_0 hD) 65 11776 (fun w => ∃ h1, w = sw_ws G 290 SH h1 ∧ sw_okH SH h1 ∧ PP h1) :=
  k_224 d (h := U_0 hD) (fun H hP => cv_Z H hP) ok_Z (t_X12_init d (hz := hZ) (mK.refl mI_Z) ⟨by decide +kernel, by decide +kernel⟩ cJ_Z (by decide +kernel) (by decide +kernel) (fun _ => hZ_0 (nTL (by decide))) (fun _ => hZ_0 (nTL (by decide))) (by decide +kernel))

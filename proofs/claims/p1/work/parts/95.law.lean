-- ===== the law: both machines, call for call =====
abbrev mL : sw_M := (⟨"StackWordsLaw", "law", "([I)Z"⟩, cL_law, 4, some .boolean)
/-- the script, an array of the caller's -/
def SC (G : sw_G) (L : Nat) (xs : Nat → Int32) : Prop := va_X (G.2.2.2 100008) L xs G.1 G.1.heap ∧ G.2.2.2 100008 < G.1.heap.size ∧ L ≤ 3072
section SCRIPT
variable {G : sw_G} {N : Nat} {S : sw_S} {d : Nat} {M : sw_M} {pc : Nat} {f : sw_L} {st : List sw_V} {h : sw_H} {Q : Option sw_V → sw_H → Prop}
theorem sx_scld {L : Nat} {xs : Nat → Int32} {i : Int} (hs : SC G L xs) (hd : decode M.2.1 pc = .ok (.iaload, 1)) (hi : 0 ≤ i ∧ i < (L : Int)) (kk : sw_E G N S d M (pc + 1) f (sw_i (xs i.toNat).toInt :: st) h Q) : sw_E G N S d M pc f (sw_i i :: sw_r 100008 :: st) h Q := by
  intro p l' e R s m args below meth c H locs cells slots F A X hW hH hst hL hR hF'
  obtain ⟨x1, x2, x3, x4, x5, x6, x7, x8, x9, x10, x11⟩ := id X
  obtain ⟨z2, z3, z4⟩ := hs
  obtain ⟨hv, he⟩ := sw_in hi.1 hi.2 (by omega)
  have hz : va_X (G.2.2.2 100008) L xs s s.heap := (z2.moved x6.alike).kept (x9 _ z3)
  have hlt : G.2.2.2 100008 < s.heap.size := by
    obtain ⟨scr, hq, -⟩ := hz
    exact (Array.getElem?_eq_some_iff.mp hq).1
  have e1 : sw_v G (sw_r 100008) = Value.ref (G.2.2.2 100008) := by
    simp only [sw_v, sw_ad]
    rw [if_neg (by omega)]
  have k1 := kk p l' e R s m args below meth c H locs cells slots F A X hW hH (sw_okc (v := sw_i _) (sw_i32_ok _) (sw_okt (sw_okt hst))) hL hR hF'
  simp only [List.map_cons, e1]
  refine va_sld x1 x2 hz hlt (fun q : G.1.heap.size ≤ _ => by omega) hW.2 hv hd ?_
  rw [he]
  have e2 : sw_v G (sw_i (xs i.toNat).toInt) = Value.int (xs i.toNat) := by
    simp only [sw_v]
    rw [Int32.ofInt_toInt]
  rw [List.map_cons, e2] at k1
  exact k1
theorem sx_scl {L : Nat} {xs : Nat → Int32} (hs : SC G L xs) (hd : decode M.2.1 pc = .ok (.arraylength, 1)) (kk : sw_E G N S d M (pc + 1) f (sw_i (L : Int) :: st) h Q) : sw_E G N S d M pc f (sw_r 100008 :: st) h Q := by
  intro p l' e R s m args below meth c H locs cells slots F A X hW hH hst hL hR hF'
  obtain ⟨x1, x2, x3, x4, x5, x6, x7, x8, x9, x10, x11⟩ := id X
  obtain ⟨z2, z3, z4⟩ := hs
  have hz : va_X (G.2.2.2 100008) L xs s s.heap := (z2.moved x6.alike).kept (x9 _ z3)
  have hlt : G.2.2.2 100008 < s.heap.size := by
    obtain ⟨scr, hq, -⟩ := hz
    exact (Array.getElem?_eq_some_iff.mp hq).1
  have e1 : sw_v G (sw_r 100008) = Value.ref (G.2.2.2 100008) := by
    simp only [sw_v, sw_ad]
    rw [if_neg (by omega)]
  have k1 := kk p l' e R s m args below meth c H locs cells slots F A X hW hH (sw_okc (v := sw_i (L : Int)) (by show sw_ok32 _; unfold sw_ok32; omega) (sw_okt hst)) hL hR hF'
  simp only [List.map_cons, e1]
  exact va_slen x1 x2 hz hlt (fun q : G.1.heap.size ≤ _ => by omega) hW.2 hd k1
end SCRIPT
theorem PP_c {pr : Nat → Nat → Bool} {h h1 : sw_H} (K : cK pr h h1) (hp : ∀ a k, 224 ≤ a → pr a k = true) (P : PP h) (ht : h1 0 12 = h 0 12) : PP h1 := by
  have e : ∀ a k, 224 ≤ a → h1 a k = h a k := fun a k q => K.2 a k (hp a k q)
  refine ⟨K.1, fun a k => ?_, ⟨mC_cd (fun a k q => e a k (by omega)) P.2.1 P.2.2.1.1, ?_, ?_, ?_⟩, ?_⟩
  · by_cases q : 224 ≤ a
    · rw [e a k q]; exact P.2.1 a k
    · unfold omc; rw [omt_lo (by omega)]; trivial
  · rw [e 224 71 (by decide)]; exact P.2.2.1.2.1
  · rw [e 224 73 (by decide), e 224 74 (by decide)]; exact P.2.2.1.2.2.1
  · rw [e 224 85 (by decide)]; exact P.2.2.1.2.2.2
  · rw [ht, e 224 100 (by decide)]; exact P.2.2.2
theorem PP_1 {h h1 : sw_H} (K : cK pr1 h h1) (P : PP h) : PP h1 := PP_c K (fun a k q => by simp [pr1, q]) P (K.2 0 12 rfl)
theorem PP_z {h h1 : sw_H} (K : cK prZ h h1) (P : PP h) : PP h1 := PP_c K (fun a k q => by simp [prZ, q]) P (K.2 0 12 rfl)
theorem prW_lo {fs as : List Nat} (ha : as.all (fun x => decide (224 ≤ x)) = true) {a k : Nat} (q : a < 224) : prW fs as a k = true := by
  unfold prW
  have e1 : (a == 224) = false := by rw [beq_eq_false_iff_ne]; omega
  have e2 : as.contains a = false := by
    cases hc : as.contains a with
    | false => rfl
    | true =>
      have := List.all_eq_true.mp ha a (List.contains_iff_mem.mp hc)
      have := of_decide_eq_true this
      omega
  rw [e1, e2]; rfl
theorem PP_m {fs as : List Nat} {h h1 : sw_H} (K : mK (prW fs as) h h1) (ha : as.all (fun x => decide (224 ≤ x)) = true) (B : mB h1) (t : h1 224 100 = h 224 100) (P : PP h) : PP h1 := by
  have e : ∀ a k, a < 224 → h1 a k = h a k := fun a k q => K.2 a k (prW_lo ha q)
  exact ⟨cJ_eq e P.1, K.1, B, by rw [e 0 12 (by decide), t]; exact P.2.2.2⟩
theorem PP_b {b : Nat} {fs as : List Nat} {h h1 : sw_H} (K : mK (prB b fs as) h h1) (ha : as.all (fun x => decide (224 ≤ x)) = true) (B : mB h1) (t : h1 224 100 = h 224 100) (P : PP h) : PP h1 := by
  have e : ∀ a k, a < 224 → h1 a k = h a k := fun a k q => K.2 a k (by unfold prB; rw [prW_lo ha q]; rfl)
  exact ⟨cJ_eq e P.1, K.1, B, by rw [e 0 12 (by decide), t]; exact P.2.2.2⟩
theorem later_m {h h1 : sw_H} (P : PP h) (K : cK prY h h1) : mI h1 ∧ mB h1 := by
  have e : ∀ a k, 224 ≤ a → h1 a k = h a k := fun a k q => K.2 a k (by simp [prY, q])
  refine ⟨fun a k => ?_, ⟨mC_cd (fun a k q => e a k (by omega)) P.2.1 P.2.2.1.1, ?_, ?_, ?_⟩⟩
  · by_cases q : 224 ≤ a
    · rw [e a k q]; exact P.2.1 a k
    · unfold omc; rw [omt_lo (by omega)]; trivial
  · rw [e 224 71 (by decide)]; exact P.2.2.1.2.1
  · rw [e 224 73 (by decide), e 224 74 (by decide)]; exact P.2.2.1.2.2.1
  · rw [e 224 85 (by decide)]; exact P.2.2.1.2.2.2
theorem lt_same {h h1 h2 : sw_H} {y z1 z2 : Int} (t : h 0 12 = h 224 100) (a : (0 ≤ y ∧ y ≤ 1000 ∧ h 0 12 + y ≤ 100000 ∧ z1 = h 0 12 + y ∧ h1 0 12 = z1) ∨ ((y < 0 ∨ 1000 < y ∨ 100000 < h 0 12 + y) ∧ z1 = -1 ∧ h1 0 12 = h 0 12)) (e : h1 224 100 = h 224 100) (e2 : h2 0 12 = h1 0 12)
    (b : (0 ≤ y ∧ y ≤ 1000 ∧ h1 224 100 + y ≤ 100000 → z2 = h1 224 100 + y ∧ h2 224 100 = h1 224 100 + y) ∧ (¬ (0 ≤ y ∧ y ≤ 1000 ∧ h1 224 100 + y ≤ 100000) → z2 = -1 ∧ h2 224 100 = h1 224 100)) : z1 = z2 ∧ h2 0 12 = h2 224 100 := by
  rcases a with ⟨a1, a2, a3, a4, a5⟩ | ⟨a1, a2, a3⟩
  · obtain ⟨b1, b2⟩ := b.1 ⟨a1, a2, by omega⟩
    constructor <;> omega
  · obtain ⟨b1, b2⟩ := b.2 (by omega)
    constructor <;> omega
set_option maxRecDepth 20000 in
set_option maxHeartbeats 4000000 in
theorem t_L_0 {G : sw_G} {d : Nat} {L : Nat} {xs : Nat → Int32} {i : Int} {h : sw_H} {Q : Option sw_V → sw_H → Prop} (hs : SC G L xs) (hP : PP h) (Fh : FC h) (Mh : FM h) (hi : 0 ≤ i ∧ i + 6 ≤ (L : Int)) (kk : ∀ h1, sw_E G NH SH (d + 158) mL 1553 [some (sw_r 100008), some (sw_r 0), some (sw_r 224), some (sw_i i)] [] h1 Q) : sw_E G NH SH (d + 158) mL 236 [some (sw_r 100008), some (sw_r 0), some (sw_r 224), some (sw_i i)] [] h Q := by
  have hL := hs.2.2
  refine sx_aload_n dL_law_236 rfl ?_
  refine sx_aload_n dL_law_237 rfl ?_
  refine sx_iload_n dL_law_238 rfl ?_
  refine sx_iconst dL_law_239 ⟨by decide, by decide⟩ ?_
  refine sx_iadd dL_law_240 ?_
  refine sy_topw (by omega) ?_
  refine sx_scld hs dL_law_241 ⟨by omega, by omega⟩ ?_
  refine sx_aload_n dL_law_242 rfl ?_
  refine sx_iload_n dL_law_243 rfl ?_
  refine sx_iconst dL_law_244 ⟨by decide, by decide⟩ ?_
  refine sx_iadd dL_law_245 ?_
  refine sy_topw (by omega) ?_
  refine sx_scld hs dL_law_246 ⟨by omega, by omega⟩ ?_
  refine sx_aload_n dL_law_247 rfl ?_
  refine sx_iload_n dL_law_248 rfl ?_
  refine sx_iconst dL_law_249 ⟨by decide, by decide⟩ ?_
  refine sx_iadd dL_law_250 ?_
  refine sy_topw (by omega) ?_
  refine sx_scld hs dL_law_251 ⟨by omega, by omega⟩ ?_
  refine sx_aload_n dL_law_252 rfl ?_
  refine sx_iload_n dL_law_253 rfl ?_
  refine sx_iconst dL_law_254 ⟨by decide, by decide⟩ ?_
  refine sx_iadd dL_law_255 ?_
  refine sy_topw (by omega) ?_
  refine sx_scld hs dL_law_256 ⟨by omega, by omega⟩ ?_
  refine sx_aload_n dL_law_257 rfl ?_
  refine sx_iload_n dL_law_258 rfl ?_
  refine sx_iconst dL_law_259 ⟨by decide, by decide⟩ ?_
  refine sx_iadd dL_law_260 ?_
  refine sy_topw (by omega) ?_
  refine sx_scld hs dL_law_261 ⟨by omega, by omega⟩ ?_
  refine sx_callVi lk_L_13 cl_11 s_0 (by decide) dL_law_262 (vs := [_, _, _, _, _]) rfl rfl (Nat.le_of_ble_eq_true rfl) (Nat.le_of_ble_eq_true rfl) rfl (f_X11_feed _ hP.1 _ _ _ _ _ Fh) (fun z1 h2 ph2 => ?_)
  have Ph2 : PP h2 := PP_1 ph2.1 hP
  have Mh2 : FM h2 := FM_of (fun a k q => ph2.1.2 a k (by simp [pr1, q])) Mh
  refine sx_aload_n dL_law_265 rfl ?_
  refine sx_aload_n dL_law_266 rfl ?_
  refine sx_iload_n dL_law_267 rfl ?_
  refine sx_iconst dL_law_268 ⟨by decide, by decide⟩ ?_
  refine sx_iadd dL_law_269 ?_
  refine sy_topw (by omega) ?_
  refine sx_scld hs dL_law_270 ⟨by omega, by omega⟩ ?_
  refine sx_aload_n dL_law_271 rfl ?_
  refine sx_iload_n dL_law_272 rfl ?_
  refine sx_iconst dL_law_273 ⟨by decide, by decide⟩ ?_
  refine sx_iadd dL_law_274 ?_
  refine sy_topw (by omega) ?_
  refine sx_scld hs dL_law_275 ⟨by omega, by omega⟩ ?_
  refine sx_aload_n dL_law_276 rfl ?_
  refine sx_iload_n dL_law_277 rfl ?_
  refine sx_iconst dL_law_278 ⟨by decide, by decide⟩ ?_
  refine sx_iadd dL_law_279 ?_
  refine sy_topw (by omega) ?_
  refine sx_scld hs dL_law_280 ⟨by omega, by omega⟩ ?_
  refine sx_aload_n dL_law_281 rfl ?_
  refine sx_iload_n dL_law_282 rfl ?_
  refine sx_iconst dL_law_283 ⟨by decide, by decide⟩ ?_
  refine sx_iadd dL_law_284 ?_
  refine sy_topw (by omega) ?_
  refine sx_scld hs dL_law_285 ⟨by omega, by omega⟩ ?_
  refine sx_aload_n dL_law_286 rfl ?_
  refine sx_iload_n dL_law_287 rfl ?_
  refine sx_iconst dL_law_288 ⟨by decide, by decide⟩ ?_
  refine sx_iadd dL_law_289 ?_
  refine sy_topw (by omega) ?_
  refine sx_scld hs dL_law_290 ⟨by omega, by omega⟩ ?_
  refine sx_callVi lk_L_17 cl_12 s_224 (by decide) dL_law_291 (vs := [_, _, _, _, _]) rfl rfl (Nat.le_of_ble_eq_true rfl) (Nat.le_of_ble_eq_true rfl) rfl (f_X12_feed _ Ph2.2.1 _ _ _ _ _ Ph2.2.2.1 Mh2) (fun z3 h4 ph4 => ?_)
  refine sx_icmp_eq (tgt := 1553) dL_law_294 (by decide) (fun c5 => ?_) (fun c5 => ?_)
  ·
    exact kk _
  ·
    exact absurd (ph2.2.trans ph4.2.2.2.symm) c5
set_option maxRecDepth 20000 in
set_option maxHeartbeats 4000000 in
theorem t_L_1 {G : sw_G} {d : Nat} {L : Nat} {xs : Nat → Int32} {i : Int} {h : sw_H} {Q : Option sw_V → sw_H → Prop} (hs : SC G L xs) (hP : PP h) (Fh : FC h) (Mh : FM h) (hi : 0 ≤ i ∧ i + 6 ≤ (L : Int)) (kk : ∀ h1, sw_E G NH SH (d + 158) mL 1553 [some (sw_r 100008), some (sw_r 0), some (sw_r 224), some (sw_i i)] [] h1 Q) : sw_E G NH SH (d + 158) mL 299 [some (sw_r 100008), some (sw_r 0), some (sw_r 224), some (sw_i i)] [] h Q := by
  have hL := hs.2.2
  refine sx_aload_n dL_law_299 rfl ?_
  refine sx_aload_n dL_law_300 rfl ?_
  refine sx_iload_n dL_law_301 rfl ?_
  refine sx_iconst dL_law_302 ⟨by decide, by decide⟩ ?_
  refine sx_iadd dL_law_303 ?_
  refine sy_topw (by omega) ?_
  refine sx_scld hs dL_law_304 ⟨by omega, by omega⟩ ?_
  refine sx_callVi lk_L_18 cl_11 s_0 (by decide) dL_law_305 (vs := [_]) rfl rfl (Nat.le_of_ble_eq_true rfl) (Nat.le_of_ble_eq_true rfl) rfl (f_X11_end _ hP.1 _ Fh) (fun z1 h2 ph2 => ?_)
  have Ph2 : PP h2 := PP_1 ph2.1 hP
  have Mh2 : FM h2 := FM_of (fun a k q => ph2.1.2 a k (by simp [pr1, q])) Mh
  refine sx_aload_n dL_law_308 rfl ?_
  refine sx_aload_n dL_law_309 rfl ?_
  refine sx_iload_n dL_law_310 rfl ?_
  refine sx_iconst dL_law_311 ⟨by decide, by decide⟩ ?_
  refine sx_iadd dL_law_312 ?_
  refine sy_topw (by omega) ?_
  refine sx_scld hs dL_law_313 ⟨by omega, by omega⟩ ?_
  refine sx_callVi lk_L_22 cl_12 s_224 (by decide) dL_law_314 (vs := [_]) rfl rfl (Nat.le_of_ble_eq_true rfl) (Nat.le_of_ble_eq_true rfl) rfl (f_X12_end _ Ph2.2.1 _ Ph2.2.2.1 Mh2) (fun z3 h4 ph4 => ?_)
  refine sx_icmp_eq (tgt := 1553) dL_law_317 (by decide) (fun c5 => ?_) (fun c5 => ?_)
  ·
    exact kk _
  ·
    exact absurd (ph2.2.trans ph4.2.2.2.symm) c5
set_option maxRecDepth 20000 in
set_option maxHeartbeats 4000000 in
theorem t_L_2 {G : sw_G} {d : Nat} {L : Nat} {xs : Nat → Int32} {i : Int} {h : sw_H} {Q : Option sw_V → sw_H → Prop} (hs : SC G L xs) (hP : PP h) (Fh : FC h) (Mh : FM h) (hi : 0 ≤ i ∧ i + 6 ≤ (L : Int)) (kk : ∀ h1, sw_E G NH SH (d + 158) mL 1553 [some (sw_r 100008), some (sw_r 0), some (sw_r 224), some (sw_i i)] [] h1 Q) : sw_E G NH SH (d + 158) mL 322 [some (sw_r 100008), some (sw_r 0), some (sw_r 224), some (sw_i i)] [] h Q := by
  have hL := hs.2.2
  refine sx_aload_n dL_law_322 rfl ?_
  refine sx_callVi lk_L_23 cl_11 s_0 (by decide) dL_law_323 (vs := []) rfl rfl (Nat.le_of_ble_eq_true rfl) (Nat.le_of_ble_eq_true rfl) rfl (f_X11_code _ hP.1  Fh) (fun z1 h2 ph2 => ?_)
  have Ph2 : PP h2 := PP_z ph2.1 hP
  have Mh2 : FM h2 := FM_of (fun a k q => ph2.1.2 a k (by simp [prZ, q])) Mh
  refine sx_aload_n dL_law_326 rfl ?_
  refine sx_callVi lk_L_27 cl_12 s_224 (by decide) dL_law_327 (vs := []) rfl rfl (Nat.le_of_ble_eq_true rfl) (Nat.le_of_ble_eq_true rfl) rfl (f_X12_code _ Ph2.2.1  Ph2.2.2.1 Mh2) (fun z3 h4 ph4 => ?_)
  refine sx_icmp_eq (tgt := 1553) dL_law_330 (by decide) (fun c5 => ?_) (fun c5 => ?_)
  ·
    exact kk _
  ·
    exact absurd (ph2.2.trans ph4.2.symm) c5
set_option maxRecDepth 20000 in
set_option maxHeartbeats 4000000 in
theorem t_L_3 {G : sw_G} {d : Nat} {L : Nat} {xs : Nat → Int32} {i : Int} {h : sw_H} {Q : Option sw_V → sw_H → Prop} (hs : SC G L xs) (hP : PP h) (Fh : FC h) (Mh : FM h) (hi : 0 ≤ i ∧ i + 6 ≤ (L : Int)) (kk : ∀ h1, sw_E G NH SH (d + 158) mL 1553 [some (sw_r 100008), some (sw_r 0), some (sw_r 224), some (sw_i i)] [] h1 Q) : sw_E G NH SH (d + 158) mL 335 [some (sw_r 100008), some (sw_r 0), some (sw_r 224), some (sw_i i)] [] h Q := by
  have hL := hs.2.2
  refine sx_aload_n dL_law_335 rfl ?_
  refine sx_aload_n dL_law_336 rfl ?_
  refine sx_iload_n dL_law_337 rfl ?_
  refine sx_iconst dL_law_338 ⟨by decide, by decide⟩ ?_
  refine sx_iadd dL_law_339 ?_
  refine sy_topw (by omega) ?_
  refine sx_scld hs dL_law_340 ⟨by omega, by omega⟩ ?_
  refine sx_callVi lk_L_28 cl_11 s_0 (by decide) dL_law_341 (vs := [_]) rfl rfl (Nat.le_of_ble_eq_true rfl) (Nat.le_of_ble_eq_true rfl) rfl (f_X11_fault _ hP.1 _ Fh) (fun z1 h2 ph2 => ?_)
  have Ph2 : PP h2 := PP_1 ph2.1 hP
  have Mh2 : FM h2 := FM_of (fun a k q => ph2.1.2 a k (by simp [pr1, q])) Mh
  refine sx_aload_n dL_law_344 rfl ?_
  refine sx_aload_n dL_law_345 rfl ?_
  refine sx_iload_n dL_law_346 rfl ?_
  refine sx_iconst dL_law_347 ⟨by decide, by decide⟩ ?_
  refine sx_iadd dL_law_348 ?_
  refine sy_topw (by omega) ?_
  refine sx_scld hs dL_law_349 ⟨by omega, by omega⟩ ?_
  refine sx_callVi lk_L_31 cl_12 s_224 (by decide) dL_law_350 (vs := [_]) rfl rfl (Nat.le_of_ble_eq_true rfl) (Nat.le_of_ble_eq_true rfl) rfl (f_X12_fault _ Ph2.2.1 _ Ph2.2.2.1 Mh2) (fun z3 h4 ph4 => ?_)
  refine sx_icmp_eq (tgt := 1553) dL_law_353 (by decide) (fun c5 => ?_) (fun c5 => ?_)
  ·
    exact kk _
  ·
    exact absurd (ph2.2.trans ph4.2.symm) c5
set_option maxRecDepth 20000 in
set_option maxHeartbeats 4000000 in
theorem t_L_4 {G : sw_G} {d : Nat} {L : Nat} {xs : Nat → Int32} {i : Int} {h : sw_H} {Q : Option sw_V → sw_H → Prop} (hs : SC G L xs) (hP : PP h) (Fh : FC h) (Mh : FM h) (hi : 0 ≤ i ∧ i + 6 ≤ (L : Int)) (kk : ∀ h1, sw_E G NH SH (d + 158) mL 1553 [some (sw_r 100008), some (sw_r 0), some (sw_r 224), some (sw_i i)] [] h1 Q) : sw_E G NH SH (d + 158) mL 358 [some (sw_r 100008), some (sw_r 0), some (sw_r 224), some (sw_i i)] [] h Q := by
  have hL := hs.2.2
  refine sx_aload_n dL_law_358 rfl ?_
  refine sx_aload_n dL_law_359 rfl ?_
  refine sx_iload_n dL_law_360 rfl ?_
  refine sx_iconst dL_law_361 ⟨by decide, by decide⟩ ?_
  refine sx_iadd dL_law_362 ?_
  refine sy_topw (by omega) ?_
  refine sx_scld hs dL_law_363 ⟨by omega, by omega⟩ ?_
  refine sx_aload_n dL_law_364 rfl ?_
  refine sx_iload_n dL_law_365 rfl ?_
  refine sx_iconst dL_law_366 ⟨by decide, by decide⟩ ?_
  refine sx_iadd dL_law_367 ?_
  refine sy_topw (by omega) ?_
  refine sx_scld hs dL_law_368 ⟨by omega, by omega⟩ ?_
  refine sx_callVi lk_L_32 cl_11 s_0 (by decide) dL_law_369 (vs := [_, _]) rfl rfl (Nat.le_of_ble_eq_true rfl) (Nat.le_of_ble_eq_true rfl) rfl (f_X11_word _ hP.1 _ _ Fh) (fun z1 h2 ph2 => ?_)
  have Ph2 : PP h2 := PP_1 ph2.1 hP
  have Mh2 : FM h2 := FM_of (fun a k q => ph2.1.2 a k (by simp [pr1, q])) Mh
  refine sx_aload_n dL_law_372 rfl ?_
  refine sx_aload_n dL_law_373 rfl ?_
  refine sx_iload_n dL_law_374 rfl ?_
  refine sx_iconst dL_law_375 ⟨by decide, by decide⟩ ?_
  refine sx_iadd dL_law_376 ?_
  refine sy_topw (by omega) ?_
  refine sx_scld hs dL_law_377 ⟨by omega, by omega⟩ ?_
  refine sx_aload_n dL_law_378 rfl ?_
  refine sx_iload_n dL_law_379 rfl ?_
  refine sx_iconst dL_law_380 ⟨by decide, by decide⟩ ?_
  refine sx_iadd dL_law_381 ?_
  refine sy_topw (by omega) ?_
  refine sx_scld hs dL_law_382 ⟨by omega, by omega⟩ ?_
  refine sx_callVi lk_L_36 cl_12 s_224 (by decide) dL_law_383 (vs := [_, _]) rfl rfl (Nat.le_of_ble_eq_true rfl) (Nat.le_of_ble_eq_true rfl) rfl (f_X12_word _ Ph2.2.1 _ _ Ph2.2.2.1 Mh2) (fun z3 h4 ph4 => ?_)
  refine sx_icmp_eq (tgt := 1553) dL_law_386 (by decide) (fun c5 => ?_) (fun c5 => ?_)
  ·
    exact kk _
  ·
    exact absurd (ph2.2.trans ph4.2.symm) c5
set_option maxRecDepth 20000 in
set_option maxHeartbeats 4000000 in
theorem t_L_5 {G : sw_G} {d : Nat} {L : Nat} {xs : Nat → Int32} {i : Int} {h : sw_H} {Q : Option sw_V → sw_H → Prop} (hs : SC G L xs) (hP : PP h) (Fh : FC h) (Mh : FM h) (hi : 0 ≤ i ∧ i + 6 ≤ (L : Int)) (kk : ∀ h1, sw_E G NH SH (d + 158) mL 1553 [some (sw_r 100008), some (sw_r 0), some (sw_r 224), some (sw_i i)] [] h1 Q) : sw_E G NH SH (d + 158) mL 391 [some (sw_r 100008), some (sw_r 0), some (sw_r 224), some (sw_i i)] [] h Q := by
  have hL := hs.2.2
  refine sx_aload_n dL_law_391 rfl ?_
  refine sx_aload_n dL_law_392 rfl ?_
  refine sx_iload_n dL_law_393 rfl ?_
  refine sx_iconst dL_law_394 ⟨by decide, by decide⟩ ?_
  refine sx_iadd dL_law_395 ?_
  refine sy_topw (by omega) ?_
  refine sx_scld hs dL_law_396 ⟨by omega, by omega⟩ ?_
  refine sx_aload_n dL_law_397 rfl ?_
  refine sx_iload_n dL_law_398 rfl ?_
  refine sx_iconst dL_law_399 ⟨by decide, by decide⟩ ?_
  refine sx_iadd dL_law_400 ?_
  refine sy_topw (by omega) ?_
  refine sx_scld hs dL_law_401 ⟨by omega, by omega⟩ ?_
  refine sx_aload_n dL_law_402 rfl ?_
  refine sx_iload_n dL_law_403 rfl ?_
  refine sx_iconst dL_law_404 ⟨by decide, by decide⟩ ?_
  refine sx_iadd dL_law_405 ?_
  refine sy_topw (by omega) ?_
  refine sx_scld hs dL_law_406 ⟨by omega, by omega⟩ ?_
  refine sx_callVi lk_L_37 cl_11 s_0 (by decide) dL_law_407 (vs := [_, _, _]) rfl rfl (Nat.le_of_ble_eq_true rfl) (Nat.le_of_ble_eq_true rfl) rfl (f_X11_item _ hP.1 _ _ _ Fh) (fun z1 h2 ph2 => ?_)
  have Ph2 : PP h2 := PP_1 ph2.1 hP
  have Mh2 : FM h2 := FM_of (fun a k q => ph2.1.2 a k (by simp [pr1, q])) Mh
  refine sx_aload_n dL_law_410 rfl ?_
  refine sx_aload_n dL_law_411 rfl ?_
  refine sx_iload_n dL_law_412 rfl ?_
  refine sx_iconst dL_law_413 ⟨by decide, by decide⟩ ?_
  refine sx_iadd dL_law_414 ?_
  refine sy_topw (by omega) ?_
  refine sx_scld hs dL_law_415 ⟨by omega, by omega⟩ ?_
  refine sx_aload_n dL_law_416 rfl ?_
  refine sx_iload_n dL_law_417 rfl ?_
  refine sx_iconst dL_law_418 ⟨by decide, by decide⟩ ?_
  refine sx_iadd dL_law_419 ?_
  refine sy_topw (by omega) ?_
  refine sx_scld hs dL_law_420 ⟨by omega, by omega⟩ ?_
  refine sx_aload_n dL_law_421 rfl ?_
  refine sx_iload_n dL_law_422 rfl ?_
  refine sx_iconst dL_law_423 ⟨by decide, by decide⟩ ?_
  refine sx_iadd dL_law_424 ?_
  refine sy_topw (by omega) ?_
  refine sx_scld hs dL_law_425 ⟨by omega, by omega⟩ ?_
  refine sx_callVi lk_L_41 cl_12 s_224 (by decide) dL_law_426 (vs := [_, _, _]) rfl rfl (Nat.le_of_ble_eq_true rfl) (Nat.le_of_ble_eq_true rfl) rfl (f_X12_item _ Ph2.2.1 _ _ _ Ph2.2.2.1 Mh2) (fun z3 h4 ph4 => ?_)
  refine sx_icmp_eq (tgt := 1553) dL_law_429 (by decide) (fun c5 => ?_) (fun c5 => ?_)
  ·
    exact kk _
  ·
    exact absurd (ph2.2.trans ph4.2.symm) c5
set_option maxRecDepth 20000 in
set_option maxHeartbeats 4000000 in
theorem t_L_6 {G : sw_G} {d : Nat} {L : Nat} {xs : Nat → Int32} {i : Int} {h : sw_H} {Q : Option sw_V → sw_H → Prop} (hs : SC G L xs) (hP : PP h) (Fh : FC h) (Mh : FM h) (hi : 0 ≤ i ∧ i + 6 ≤ (L : Int)) (kk : ∀ h1, sw_E G NH SH (d + 158) mL 1553 [some (sw_r 100008), some (sw_r 0), some (sw_r 224), some (sw_i i)] [] h1 Q) : sw_E G NH SH (d + 158) mL 434 [some (sw_r 100008), some (sw_r 0), some (sw_r 224), some (sw_i i)] [] h Q := by
  have hL := hs.2.2
  refine sx_aload_n dL_law_434 rfl ?_
  refine sx_aload_n dL_law_435 rfl ?_
  refine sx_iload_n dL_law_436 rfl ?_
  refine sx_iconst dL_law_437 ⟨by decide, by decide⟩ ?_
  refine sx_iadd dL_law_438 ?_
  refine sy_topw (by omega) ?_
  refine sx_scld hs dL_law_439 ⟨by omega, by omega⟩ ?_
  refine sx_callVi lk_L_42 cl_11 s_0 (by decide) dL_law_440 (vs := [_]) rfl rfl (Nat.le_of_ble_eq_true rfl) (Nat.le_of_ble_eq_true rfl) rfl (f_X11_lay _ hP.1 _ Fh) (fun z1 h2 ph2 => ?_)
  have Ph2 : PP h2 := PP_1 ph2.1 hP
  have Mh2 : FM h2 := FM_of (fun a k q => ph2.1.2 a k (by simp [pr1, q])) Mh
  refine sx_aload_n dL_law_443 rfl ?_
  refine sx_aload_n dL_law_444 rfl ?_
  refine sx_iload_n dL_law_445 rfl ?_
  refine sx_iconst dL_law_446 ⟨by decide, by decide⟩ ?_
  refine sx_iadd dL_law_447 ?_
  refine sy_topw (by omega) ?_
  refine sx_scld hs dL_law_448 ⟨by omega, by omega⟩ ?_
  refine sx_callVi lk_L_45 cl_12 s_224 (by decide) dL_law_449 (vs := [_]) rfl rfl (Nat.le_of_ble_eq_true rfl) (Nat.le_of_ble_eq_true rfl) rfl (f_X12_lay _ Ph2.2.1 _ Ph2.2.2.1 Mh2) (fun z3 h4 ph4 => ?_)
  refine sx_icmp_eq (tgt := 1553) dL_law_452 (by decide) (fun c5 => ?_) (fun c5 => ?_)
  ·
    exact kk _
  ·
    exact absurd (ph2.2.trans ph4.2.2.2.symm) c5
set_option maxRecDepth 20000 in
set_option maxHeartbeats 4000000 in
theorem t_L_7 {G : sw_G} {d : Nat} {L : Nat} {xs : Nat → Int32} {i : Int} {h : sw_H} {Q : Option sw_V → sw_H → Prop} (hs : SC G L xs) (hP : PP h) (Fh : FC h) (Mh : FM h) (hi : 0 ≤ i ∧ i + 6 ≤ (L : Int)) (kk : ∀ h1, sw_E G NH SH (d + 158) mL 1553 [some (sw_r 100008), some (sw_r 0), some (sw_r 224), some (sw_i i)] [] h1 Q) : sw_E G NH SH (d + 158) mL 457 [some (sw_r 100008), some (sw_r 0), some (sw_r 224), some (sw_i i)] [] h Q := by
  have hL := hs.2.2
  refine sx_aload_n dL_law_457 rfl ?_
  refine sx_aload_n dL_law_458 rfl ?_
  refine sx_iload_n dL_law_459 rfl ?_
  refine sx_iconst dL_law_460 ⟨by decide, by decide⟩ ?_
  refine sx_iadd dL_law_461 ?_
  refine sy_topw (by omega) ?_
  refine sx_scld hs dL_law_462 ⟨by omega, by omega⟩ ?_
  refine sx_callVi lk_L_46 cl_11 s_0 (by decide) dL_law_463 (vs := [_]) rfl rfl (Nat.le_of_ble_eq_true rfl) (Nat.le_of_ble_eq_true rfl) rfl (f_X11_run _ hP.1 _ Fh) (fun z1 h2 ph2 => ?_)
  have Ph2 : PP h2 := PP_1 ph2.1 hP
  have Mh2 : FM h2 := FM_of (fun a k q => ph2.1.2 a k (by simp [pr1, q])) Mh
  refine sx_aload_n dL_law_466 rfl ?_
  refine sx_aload_n dL_law_467 rfl ?_
  refine sx_iload_n dL_law_468 rfl ?_
  refine sx_iconst dL_law_469 ⟨by decide, by decide⟩ ?_
  refine sx_iadd dL_law_470 ?_
  refine sy_topw (by omega) ?_
  refine sx_scld hs dL_law_471 ⟨by omega, by omega⟩ ?_
  refine sx_callVi lk_L_49 cl_12 s_224 (by decide) dL_law_472 (vs := [_]) rfl rfl (Nat.le_of_ble_eq_true rfl) (Nat.le_of_ble_eq_true rfl) rfl (f_X12_run _ Ph2.2.1 _ Ph2.2.2.1 Mh2) (fun z3 h4 ph4 => ?_)
  refine sx_icmp_eq (tgt := 1553) dL_law_475 (by decide) (fun c5 => ?_) (fun c5 => ?_)
  ·
    exact kk _
  ·
    exact absurd (ph2.2.trans ph4.2.2.2.symm) c5
set_option maxRecDepth 20000 in
set_option maxHeartbeats 4000000 in
theorem t_L_8 {G : sw_G} {d : Nat} {L : Nat} {xs : Nat → Int32} {i : Int} {h : sw_H} {Q : Option sw_V → sw_H → Prop} (hs : SC G L xs) (hP : PP h) (Fh : FC h) (Mh : FM h) (hi : 0 ≤ i ∧ i + 6 ≤ (L : Int)) (kk : ∀ h1, sw_E G NH SH (d + 158) mL 1553 [some (sw_r 100008), some (sw_r 0), some (sw_r 224), some (sw_i i)] [] h1 Q) : sw_E G NH SH (d + 158) mL 480 [some (sw_r 100008), some (sw_r 0), some (sw_r 224), some (sw_i i)] [] h Q := by
  have hL := hs.2.2
  refine sx_aload_n dL_law_480 rfl ?_
  refine sx_aload_n dL_law_481 rfl ?_
  refine sx_iload_n dL_law_482 rfl ?_
  refine sx_iconst dL_law_483 ⟨by decide, by decide⟩ ?_
  refine sx_iadd dL_law_484 ?_
  refine sy_topw (by omega) ?_
  refine sx_scld hs dL_law_485 ⟨by omega, by omega⟩ ?_
  refine sx_callVi lk_L_50 cl_11 s_0 (by decide) dL_law_486 (vs := [_]) rfl rfl (Nat.le_of_ble_eq_true rfl) (Nat.le_of_ble_eq_true rfl) rfl (f_X11_call _ hP.1 _ Fh) (fun z1 h2 ph2 => ?_)
  have Ph2 : PP h2 := PP_1 ph2.1 hP
  have Mh2 : FM h2 := FM_of (fun a k q => ph2.1.2 a k (by simp [pr1, q])) Mh
  refine sx_aload_n dL_law_489 rfl ?_
  refine sx_aload_n dL_law_490 rfl ?_
  refine sx_iload_n dL_law_491 rfl ?_
  refine sx_iconst dL_law_492 ⟨by decide, by decide⟩ ?_
  refine sx_iadd dL_law_493 ?_
  refine sy_topw (by omega) ?_
  refine sx_scld hs dL_law_494 ⟨by omega, by omega⟩ ?_
  refine sx_callVi lk_L_53 cl_12 s_224 (by decide) dL_law_495 (vs := [_]) rfl rfl (Nat.le_of_ble_eq_true rfl) (Nat.le_of_ble_eq_true rfl) rfl (f_X12_call _ Ph2.2.1 _ Ph2.2.2.1 Mh2) (fun z3 h4 ph4 => ?_)
  refine sx_icmp_eq (tgt := 1553) dL_law_498 (by decide) (fun c5 => ?_) (fun c5 => ?_)
  ·
    exact kk _
  ·
    exact absurd (ph2.2.trans ph4.2.2.2.symm) c5
set_option maxRecDepth 20000 in
set_option maxHeartbeats 4000000 in
theorem t_L_9 {G : sw_G} {d : Nat} {L : Nat} {xs : Nat → Int32} {i : Int} {h : sw_H} {Q : Option sw_V → sw_H → Prop} (hs : SC G L xs) (hP : PP h) (Fh : FC h) (Mh : FM h) (hi : 0 ≤ i ∧ i + 6 ≤ (L : Int)) (kk : ∀ h1, sw_E G NH SH (d + 158) mL 1553 [some (sw_r 100008), some (sw_r 0), some (sw_r 224), some (sw_i i)] [] h1 Q) : sw_E G NH SH (d + 158) mL 503 [some (sw_r 100008), some (sw_r 0), some (sw_r 224), some (sw_i i)] [] h Q := by
  have hL := hs.2.2
  refine sx_aload_n dL_law_503 rfl ?_
  refine sx_callVi lk_L_54 cl_11 s_0 (by decide) dL_law_504 (vs := []) rfl rfl (Nat.le_of_ble_eq_true rfl) (Nat.le_of_ble_eq_true rfl) rfl (f_X11_clear _ hP.1  Fh) (fun z1 h2 ph2 => ?_)
  have Ph2 : PP h2 := PP_1 ph2.1 hP
  have Mh2 : FM h2 := FM_of (fun a k q => ph2.1.2 a k (by simp [pr1, q])) Mh
  refine sx_aload_n dL_law_507 rfl ?_
  refine sx_callVi lk_L_57 cl_12 s_224 (by decide) dL_law_508 (vs := []) rfl rfl (Nat.le_of_ble_eq_true rfl) (Nat.le_of_ble_eq_true rfl) rfl (f_X12_clear _ Ph2.2.1  Ph2.2.2.1 Mh2) (fun z3 h4 ph4 => ?_)
  refine sx_icmp_eq (tgt := 1553) dL_law_511 (by decide) (fun c5 => ?_) (fun c5 => ?_)
  ·
    exact kk _
  ·
    exact absurd (ph2.2.trans ph4.2.2.2.symm) c5
set_option maxRecDepth 20000 in
set_option maxHeartbeats 4000000 in
theorem t_L_10 {G : sw_G} {d : Nat} {L : Nat} {xs : Nat → Int32} {i : Int} {h : sw_H} {Q : Option sw_V → sw_H → Prop} (hs : SC G L xs) (hP : PP h) (Fh : FC h) (Mh : FM h) (hi : 0 ≤ i ∧ i + 6 ≤ (L : Int)) (kk : ∀ h1, sw_E G NH SH (d + 158) mL 1553 [some (sw_r 100008), some (sw_r 0), some (sw_r 224), some (sw_i i)] [] h1 Q) : sw_E G NH SH (d + 158) mL 516 [some (sw_r 100008), some (sw_r 0), some (sw_r 224), some (sw_i i)] [] h Q := by
  have hL := hs.2.2
  refine sx_aload_n dL_law_516 rfl ?_
  refine sx_aload_n dL_law_517 rfl ?_
  refine sx_iload_n dL_law_518 rfl ?_
  refine sx_iconst dL_law_519 ⟨by decide, by decide⟩ ?_
  refine sx_iadd dL_law_520 ?_
  refine sy_topw (by omega) ?_
  refine sx_scld hs dL_law_521 ⟨by omega, by omega⟩ ?_
  refine sx_callVi lk_L_58 cl_11 s_0 (by decide) dL_law_522 (vs := [_]) rfl rfl (Nat.le_of_ble_eq_true rfl) (Nat.le_of_ble_eq_true rfl) rfl (f_X11_inline _ hP.1 _ Fh) (fun z1 h2 ph2 => ?_)
  have Ph2 : PP h2 := PP_1 ph2.1 hP
  have Mh2 : FM h2 := FM_of (fun a k q => ph2.1.2 a k (by simp [pr1, q])) Mh
  refine sx_aload_n dL_law_525 rfl ?_
  refine sx_aload_n dL_law_526 rfl ?_
  refine sx_iload_n dL_law_527 rfl ?_
  refine sx_iconst dL_law_528 ⟨by decide, by decide⟩ ?_
  refine sx_iadd dL_law_529 ?_
  refine sy_topw (by omega) ?_
  refine sx_scld hs dL_law_530 ⟨by omega, by omega⟩ ?_
  refine sx_callVi lk_L_61 cl_12 s_224 (by decide) dL_law_531 (vs := [_]) rfl rfl (Nat.le_of_ble_eq_true rfl) (Nat.le_of_ble_eq_true rfl) rfl (f_X12_inline _ Ph2.2.1 _ Ph2.2.2.1 Mh2) (fun z3 h4 ph4 => ?_)
  refine sx_icmp_eq (tgt := 1553) dL_law_534 (by decide) (fun c5 => ?_) (fun c5 => ?_)
  ·
    exact kk _
  ·
    exact absurd (ph2.2.trans ph4.2.2.2.symm) c5
set_option maxRecDepth 20000 in
set_option maxHeartbeats 4000000 in
theorem t_L_11 {G : sw_G} {d : Nat} {L : Nat} {xs : Nat → Int32} {i : Int} {h : sw_H} {Q : Option sw_V → sw_H → Prop} (hs : SC G L xs) (hP : PP h) (Fh : FC h) (Mh : FM h) (hi : 0 ≤ i ∧ i + 6 ≤ (L : Int)) (kk : ∀ h1, sw_E G NH SH (d + 158) mL 1553 [some (sw_r 100008), some (sw_r 0), some (sw_r 224), some (sw_i i)] [] h1 Q) : sw_E G NH SH (d + 158) mL 539 [some (sw_r 100008), some (sw_r 0), some (sw_r 224), some (sw_i i)] [] h Q := by
  have hL := hs.2.2
  refine sx_aload_n dL_law_539 rfl ?_
  refine sx_callVi lk_L_62 cl_11 s_0 (by decide) dL_law_540 (vs := []) rfl rfl (Nat.le_of_ble_eq_true rfl) (Nat.le_of_ble_eq_true rfl) rfl (f_X11_flip _ hP.1  Fh) (fun z1 h2 ph2 => ?_)
  have Ph2 : PP h2 := PP_1 ph2.1 hP
  have Mh2 : FM h2 := FM_of (fun a k q => ph2.1.2 a k (by simp [pr1, q])) Mh
  refine sx_aload_n dL_law_543 rfl ?_
  refine sx_callVi lk_L_65 cl_12 s_224 (by decide) dL_law_544 (vs := []) rfl rfl (Nat.le_of_ble_eq_true rfl) (Nat.le_of_ble_eq_true rfl) rfl (f_X12_flip _ Ph2.2.1  Ph2.2.2.1 Mh2) (fun z3 h4 ph4 => ?_)
  refine sx_icmp_eq (tgt := 1553) dL_law_547 (by decide) (fun c5 => ?_) (fun c5 => ?_)
  ·
    exact kk _
  ·
    exact absurd (ph2.2.trans ph4.2.2.2.symm) c5
set_option maxRecDepth 20000 in
set_option maxHeartbeats 4000000 in
theorem t_L_12 {G : sw_G} {d : Nat} {L : Nat} {xs : Nat → Int32} {i : Int} {h : sw_H} {Q : Option sw_V → sw_H → Prop} (hs : SC G L xs) (hP : PP h) (Fh : FC h) (Mh : FM h) (hi : 0 ≤ i ∧ i + 6 ≤ (L : Int)) (kk : ∀ h1, sw_E G NH SH (d + 158) mL 1553 [some (sw_r 100008), some (sw_r 0), some (sw_r 224), some (sw_i i)] [] h1 Q) : sw_E G NH SH (d + 158) mL 552 [some (sw_r 100008), some (sw_r 0), some (sw_r 224), some (sw_i i)] [] h Q := by
  have hL := hs.2.2
  refine sx_aload_n dL_law_552 rfl ?_
  refine sx_callVz lk_L_66 cl_11 s_0 (by decide) dL_law_553 (vs := []) rfl rfl (Nat.le_of_ble_eq_true rfl) (Nat.le_of_ble_eq_true rfl) rfl (f_X11_undo _ hP.1  Fh) (fun z1 h2 zz1 ph2 => ?_)
  have Ph2 : PP h2 := PP_1 ph2.1 hP
  have Mh2 : FM h2 := FM_of (fun a k q => ph2.1.2 a k (by simp [pr1, q])) Mh
  refine sx_aload_n dL_law_556 rfl ?_
  refine sx_callVz lk_L_70 cl_12 s_224 (by decide) dL_law_557 (vs := []) rfl rfl (Nat.le_of_ble_eq_true rfl) (Nat.le_of_ble_eq_true rfl) rfl (f_X12_undo _ Ph2.2.1  Ph2.2.2.1 Mh2) (fun z3 h4 zz3 ph4 => ?_)
  refine sx_icmp_eq (tgt := 1553) dL_law_560 (by decide) (fun c5 => ?_) (fun c5 => ?_)
  ·
    exact kk _
  ·
    exact absurd (ph2.2.trans ph4.2.2.2.symm) c5
set_option maxRecDepth 20000 in
set_option maxHeartbeats 4000000 in
theorem t_L_13 {G : sw_G} {d : Nat} {L : Nat} {xs : Nat → Int32} {i : Int} {h : sw_H} {Q : Option sw_V → sw_H → Prop} (hs : SC G L xs) (hP : PP h) (Fh : FC h) (Mh : FM h) (hi : 0 ≤ i ∧ i + 6 ≤ (L : Int)) (kk : ∀ h1, sw_E G NH SH (d + 158) mL 1553 [some (sw_r 100008), some (sw_r 0), some (sw_r 224), some (sw_i i)] [] h1 Q) : sw_E G NH SH (d + 158) mL 565 [some (sw_r 100008), some (sw_r 0), some (sw_r 224), some (sw_i i)] [] h Q := by
  have hL := hs.2.2
  refine sx_aload_n dL_law_565 rfl ?_
  refine sx_callVz lk_L_71 cl_11 s_0 (by decide) dL_law_566 (vs := []) rfl rfl (Nat.le_of_ble_eq_true rfl) (Nat.le_of_ble_eq_true rfl) rfl (f_X11_redo _ hP.1  Fh) (fun z1 h2 zz1 ph2 => ?_)
  have Ph2 : PP h2 := PP_1 ph2.1 hP
  have Mh2 : FM h2 := FM_of (fun a k q => ph2.1.2 a k (by simp [pr1, q])) Mh
  refine sx_aload_n dL_law_569 rfl ?_
  refine sx_callVz lk_L_74 cl_12 s_224 (by decide) dL_law_570 (vs := []) rfl rfl (Nat.le_of_ble_eq_true rfl) (Nat.le_of_ble_eq_true rfl) rfl (f_X12_redo _ Ph2.2.1  Ph2.2.2.1 Mh2) (fun z3 h4 zz3 ph4 => ?_)
  refine sx_icmp_eq (tgt := 1553) dL_law_573 (by decide) (fun c5 => ?_) (fun c5 => ?_)
  ·
    exact kk _
  ·
    exact absurd (ph2.2.trans ph4.2.2.2.symm) c5
set_option maxRecDepth 20000 in
set_option maxHeartbeats 4000000 in
theorem t_L_14 {G : sw_G} {d : Nat} {L : Nat} {xs : Nat → Int32} {i : Int} {h : sw_H} {Q : Option sw_V → sw_H → Prop} (hs : SC G L xs) (hP : PP h) (Fh : FC h) (Mh : FM h) (hi : 0 ≤ i ∧ i + 6 ≤ (L : Int)) (kk : ∀ h1, sw_E G NH SH (d + 158) mL 1553 [some (sw_r 100008), some (sw_r 0), some (sw_r 224), some (sw_i i)] [] h1 Q) : sw_E G NH SH (d + 158) mL 578 [some (sw_r 100008), some (sw_r 0), some (sw_r 224), some (sw_i i)] [] h Q := by
  have hL := hs.2.2
  refine sx_aload_n dL_law_578 rfl ?_
  refine sx_aload_n dL_law_579 rfl ?_
  refine sx_iload_n dL_law_580 rfl ?_
  refine sx_iconst dL_law_581 ⟨by decide, by decide⟩ ?_
  refine sx_iadd dL_law_582 ?_
  refine sy_topw (by omega) ?_
  refine sx_scld hs dL_law_583 ⟨by omega, by omega⟩ ?_
  refine sx_callVi lk_L_75 cl_11 s_0 (by decide) dL_law_584 (vs := [_]) rfl rfl (Nat.le_of_ble_eq_true rfl) (Nat.le_of_ble_eq_true rfl) rfl (f_X11_cell _ hP.1 _ Fh) (fun z1 h2 ph2 => ?_)
  have Ph2 : PP h2 := PP_1 ph2.1 hP
  have Mh2 : FM h2 := FM_of (fun a k q => ph2.1.2 a k (by simp [pr1, q])) Mh
  refine sx_aload_n dL_law_587 rfl ?_
  refine sx_aload_n dL_law_588 rfl ?_
  refine sx_iload_n dL_law_589 rfl ?_
  refine sx_iconst dL_law_590 ⟨by decide, by decide⟩ ?_
  refine sx_iadd dL_law_591 ?_
  refine sy_topw (by omega) ?_
  refine sx_scld hs dL_law_592 ⟨by omega, by omega⟩ ?_
  refine sx_callVi lk_L_78 cl_12 s_224 (by decide) dL_law_593 (vs := [_]) rfl rfl (Nat.le_of_ble_eq_true rfl) (Nat.le_of_ble_eq_true rfl) rfl (f_X12_cell _ Ph2.2.1 _ Ph2.2.2.1 Mh2) (fun z3 h4 ph4 => ?_)
  refine sx_icmp_eq (tgt := 1553) dL_law_596 (by decide) (fun c5 => ?_) (fun c5 => ?_)
  ·
    exact kk _
  ·
    exact absurd (ph2.2.trans ph4.2.symm) c5
set_option maxRecDepth 20000 in
set_option maxHeartbeats 4000000 in
theorem t_L_15 {G : sw_G} {d : Nat} {L : Nat} {xs : Nat → Int32} {i : Int} {h : sw_H} {Q : Option sw_V → sw_H → Prop} (hs : SC G L xs) (hP : PP h) (Fh : FC h) (Mh : FM h) (hi : 0 ≤ i ∧ i + 6 ≤ (L : Int)) (kk : ∀ h1, sw_E G NH SH (d + 158) mL 1553 [some (sw_r 100008), some (sw_r 0), some (sw_r 224), some (sw_i i)] [] h1 Q) : sw_E G NH SH (d + 158) mL 601 [some (sw_r 100008), some (sw_r 0), some (sw_r 224), some (sw_i i)] [] h Q := by
  have hL := hs.2.2
  refine sx_aload_n dL_law_601 rfl ?_
  refine sx_aload_n dL_law_602 rfl ?_
  refine sx_iload_n dL_law_603 rfl ?_
  refine sx_iconst dL_law_604 ⟨by decide, by decide⟩ ?_
  refine sx_iadd dL_law_605 ?_
  refine sy_topw (by omega) ?_
  refine sx_scld hs dL_law_606 ⟨by omega, by omega⟩ ?_
  refine sx_callVi lk_L_79 cl_11 s_0 (by decide) dL_law_607 (vs := [_]) rfl rfl (Nat.le_of_ble_eq_true rfl) (Nat.le_of_ble_eq_true rfl) rfl (f_X11_put _ hP.1 _ Fh) (fun z1 h2 ph2 => ?_)
  have Ph2 : PP h2 := PP_1 ph2.1 hP
  have Mh2 : FM h2 := FM_of (fun a k q => ph2.1.2 a k (by simp [pr1, q])) Mh
  refine sx_aload_n dL_law_610 rfl ?_
  refine sx_aload_n dL_law_611 rfl ?_
  refine sx_iload_n dL_law_612 rfl ?_
  refine sx_iconst dL_law_613 ⟨by decide, by decide⟩ ?_
  refine sx_iadd dL_law_614 ?_
  refine sy_topw (by omega) ?_
  refine sx_scld hs dL_law_615 ⟨by omega, by omega⟩ ?_
  refine sx_callVi lk_L_82 cl_12 s_224 (by decide) dL_law_616 (vs := [_]) rfl rfl (Nat.le_of_ble_eq_true rfl) (Nat.le_of_ble_eq_true rfl) rfl (f_X12_put _ Ph2.2.1 _ Ph2.2.2.1 Mh2) (fun z3 h4 ph4 => ?_)
  refine sx_icmp_eq (tgt := 1553) dL_law_619 (by decide) (fun c5 => ?_) (fun c5 => ?_)
  ·
    exact kk _
  ·
    exact absurd (ph2.2.trans ph4.2.symm) c5
set_option maxRecDepth 20000 in
set_option maxHeartbeats 4000000 in
theorem t_L_16 {G : sw_G} {d : Nat} {L : Nat} {xs : Nat → Int32} {i : Int} {h : sw_H} {Q : Option sw_V → sw_H → Prop} (hs : SC G L xs) (hP : PP h) (Fh : FC h) (Mh : FM h) (hi : 0 ≤ i ∧ i + 6 ≤ (L : Int)) (kk : ∀ h1, sw_E G NH SH (d + 158) mL 1553 [some (sw_r 100008), some (sw_r 0), some (sw_r 224), some (sw_i i)] [] h1 Q) : sw_E G NH SH (d + 158) mL 624 [some (sw_r 100008), some (sw_r 0), some (sw_r 224), some (sw_i i)] [] h Q := by
  have hL := hs.2.2
  refine sx_aload_n dL_law_624 rfl ?_
  refine sx_aload_n dL_law_625 rfl ?_
  refine sx_iload_n dL_law_626 rfl ?_
  refine sx_iconst dL_law_627 ⟨by decide, by decide⟩ ?_
  refine sx_iadd dL_law_628 ?_
  refine sy_topw (by omega) ?_
  refine sx_scld hs dL_law_629 ⟨by omega, by omega⟩ ?_
  refine sx_aload_n dL_law_630 rfl ?_
  refine sx_iload_n dL_law_631 rfl ?_
  refine sx_iconst dL_law_632 ⟨by decide, by decide⟩ ?_
  refine sx_iadd dL_law_633 ?_
  refine sy_topw (by omega) ?_
  refine sx_scld hs dL_law_634 ⟨by omega, by omega⟩ ?_
  refine sx_aload_n dL_law_635 rfl ?_
  refine sx_iload_n dL_law_636 rfl ?_
  refine sx_iconst dL_law_637 ⟨by decide, by decide⟩ ?_
  refine sx_iadd dL_law_638 ?_
  refine sy_topw (by omega) ?_
  refine sx_scld hs dL_law_639 ⟨by omega, by omega⟩ ?_
  refine sx_aload_n dL_law_640 rfl ?_
  refine sx_iload_n dL_law_641 rfl ?_
  refine sx_iconst dL_law_642 ⟨by decide, by decide⟩ ?_
  refine sx_iadd dL_law_643 ?_
  refine sy_topw (by omega) ?_
  refine sx_scld hs dL_law_644 ⟨by omega, by omega⟩ ?_
  refine sx_aload_n dL_law_645 rfl ?_
  refine sx_iload_n dL_law_646 rfl ?_
  refine sx_iconst dL_law_647 ⟨by decide, by decide⟩ ?_
  refine sx_iadd dL_law_648 ?_
  refine sy_topw (by omega) ?_
  refine sx_scld hs dL_law_649 ⟨by omega, by omega⟩ ?_
  refine sx_callVi lk_L_83 cl_11 s_0 (by decide) dL_law_650 (vs := [_, _, _, _, _]) rfl rfl (Nat.le_of_ble_eq_true rfl) (Nat.le_of_ble_eq_true rfl) rfl (f_X11_comes _ hP.1 _ _ _ _ _ Fh) (fun z1 h2 ph2 => ?_)
  have Ph2 : PP h2 := PP_1 ph2.1 hP
  have Mh2 : FM h2 := FM_of (fun a k q => ph2.1.2 a k (by simp [pr1, q])) Mh
  refine sx_aload_n dL_law_653 rfl ?_
  refine sx_aload_n dL_law_654 rfl ?_
  refine sx_iload_n dL_law_655 rfl ?_
  refine sx_iconst dL_law_656 ⟨by decide, by decide⟩ ?_
  refine sx_iadd dL_law_657 ?_
  refine sy_topw (by omega) ?_
  refine sx_scld hs dL_law_658 ⟨by omega, by omega⟩ ?_
  refine sx_aload_n dL_law_659 rfl ?_
  refine sx_iload_n dL_law_660 rfl ?_
  refine sx_iconst dL_law_661 ⟨by decide, by decide⟩ ?_
  refine sx_iadd dL_law_662 ?_
  refine sy_topw (by omega) ?_
  refine sx_scld hs dL_law_663 ⟨by omega, by omega⟩ ?_
  refine sx_aload_n dL_law_664 rfl ?_
  refine sx_iload_n dL_law_665 rfl ?_
  refine sx_iconst dL_law_666 ⟨by decide, by decide⟩ ?_
  refine sx_iadd dL_law_667 ?_
  refine sy_topw (by omega) ?_
  refine sx_scld hs dL_law_668 ⟨by omega, by omega⟩ ?_
  refine sx_aload_n dL_law_669 rfl ?_
  refine sx_iload_n dL_law_670 rfl ?_
  refine sx_iconst dL_law_671 ⟨by decide, by decide⟩ ?_
  refine sx_iadd dL_law_672 ?_
  refine sy_topw (by omega) ?_
  refine sx_scld hs dL_law_673 ⟨by omega, by omega⟩ ?_
  refine sx_aload_n dL_law_674 rfl ?_
  refine sx_iload_n dL_law_675 rfl ?_
  refine sx_iconst dL_law_676 ⟨by decide, by decide⟩ ?_
  refine sx_iadd dL_law_677 ?_
  refine sy_topw (by omega) ?_
  refine sx_scld hs dL_law_678 ⟨by omega, by omega⟩ ?_
  refine sx_callVi lk_L_86 cl_12 s_224 (by decide) dL_law_679 (vs := [_, _, _, _, _]) rfl rfl (Nat.le_of_ble_eq_true rfl) (Nat.le_of_ble_eq_true rfl) rfl (f_X12_comes _ Ph2.2.1 _ _ _ _ _ Ph2.2.2.1 Mh2) (fun z3 h4 ph4 => ?_)
  refine sx_icmp_eq (tgt := 1553) dL_law_682 (by decide) (fun c5 => ?_) (fun c5 => ?_)
  ·
    exact kk _
  ·
    exact absurd (ph2.2.trans ph4.2.2.2.symm) c5
set_option maxRecDepth 20000 in
set_option maxHeartbeats 4000000 in
theorem t_L_17 {G : sw_G} {d : Nat} {L : Nat} {xs : Nat → Int32} {i : Int} {h : sw_H} {Q : Option sw_V → sw_H → Prop} (hs : SC G L xs) (hP : PP h) (Fh : FC h) (Mh : FM h) (hi : 0 ≤ i ∧ i + 6 ≤ (L : Int)) (kk : ∀ h1, sw_E G NH SH (d + 158) mL 1553 [some (sw_r 100008), some (sw_r 0), some (sw_r 224), some (sw_i i)] [] h1 Q) : sw_E G NH SH (d + 158) mL 687 [some (sw_r 100008), some (sw_r 0), some (sw_r 224), some (sw_i i)] [] h Q := by
  have hL := hs.2.2
  refine sx_aload_n dL_law_687 rfl ?_
  refine sx_aload_n dL_law_688 rfl ?_
  refine sx_iload_n dL_law_689 rfl ?_
  refine sx_iconst dL_law_690 ⟨by decide, by decide⟩ ?_
  refine sx_iadd dL_law_691 ?_
  refine sy_topw (by omega) ?_
  refine sx_scld hs dL_law_692 ⟨by omega, by omega⟩ ?_
  refine sx_aload_n dL_law_693 rfl ?_
  refine sx_iload_n dL_law_694 rfl ?_
  refine sx_iconst dL_law_695 ⟨by decide, by decide⟩ ?_
  refine sx_iadd dL_law_696 ?_
  refine sy_topw (by omega) ?_
  refine sx_scld hs dL_law_697 ⟨by omega, by omega⟩ ?_
  refine sx_callVi lk_L_87 cl_11 s_0 (by decide) dL_law_698 (vs := [_, _]) rfl rfl (Nat.le_of_ble_eq_true rfl) (Nat.le_of_ble_eq_true rfl) rfl (f_X11_alike _ hP.1 _ _ Fh) (fun z1 h2 ph2 => ?_)
  have Ph2 : PP h2 := PP_1 ph2.1 hP
  have Mh2 : FM h2 := FM_of (fun a k q => ph2.1.2 a k (by simp [pr1, q])) Mh
  refine sx_aload_n dL_law_701 rfl ?_
  refine sx_aload_n dL_law_702 rfl ?_
  refine sx_iload_n dL_law_703 rfl ?_
  refine sx_iconst dL_law_704 ⟨by decide, by decide⟩ ?_
  refine sx_iadd dL_law_705 ?_
  refine sy_topw (by omega) ?_
  refine sx_scld hs dL_law_706 ⟨by omega, by omega⟩ ?_
  refine sx_aload_n dL_law_707 rfl ?_
  refine sx_iload_n dL_law_708 rfl ?_
  refine sx_iconst dL_law_709 ⟨by decide, by decide⟩ ?_
  refine sx_iadd dL_law_710 ?_
  refine sy_topw (by omega) ?_
  refine sx_scld hs dL_law_711 ⟨by omega, by omega⟩ ?_
  refine sx_callVi lk_L_90 cl_12 s_224 (by decide) dL_law_712 (vs := [_, _]) rfl rfl (Nat.le_of_ble_eq_true rfl) (Nat.le_of_ble_eq_true rfl) rfl (f_X12_alike _ Ph2.2.1 _ _ Ph2.2.2.1 Mh2) (fun z3 h4 ph4 => ?_)
  refine sx_icmp_eq (tgt := 1553) dL_law_715 (by decide) (fun c5 => ?_) (fun c5 => ?_)
  ·
    exact kk _
  ·
    exact absurd (ph2.2.trans ph4.2.2.2.symm) c5
set_option maxRecDepth 20000 in
set_option maxHeartbeats 4000000 in
theorem t_L_18 {G : sw_G} {d : Nat} {L : Nat} {xs : Nat → Int32} {i : Int} {h : sw_H} {Q : Option sw_V → sw_H → Prop} (hs : SC G L xs) (hP : PP h) (Fh : FC h) (Mh : FM h) (hi : 0 ≤ i ∧ i + 6 ≤ (L : Int)) (kk : ∀ h1, sw_E G NH SH (d + 158) mL 1553 [some (sw_r 100008), some (sw_r 0), some (sw_r 224), some (sw_i i)] [] h1 Q) : sw_E G NH SH (d + 158) mL 720 [some (sw_r 100008), some (sw_r 0), some (sw_r 224), some (sw_i i)] [] h Q := by
  have hL := hs.2.2
  refine sx_aload_n dL_law_720 rfl ?_
  refine sx_aload_n dL_law_721 rfl ?_
  refine sx_iload_n dL_law_722 rfl ?_
  refine sx_iconst dL_law_723 ⟨by decide, by decide⟩ ?_
  refine sx_iadd dL_law_724 ?_
  refine sy_topw (by omega) ?_
  refine sx_scld hs dL_law_725 ⟨by omega, by omega⟩ ?_
  refine sx_aload_n dL_law_726 rfl ?_
  refine sx_iload_n dL_law_727 rfl ?_
  refine sx_iconst dL_law_728 ⟨by decide, by decide⟩ ?_
  refine sx_iadd dL_law_729 ?_
  refine sy_topw (by omega) ?_
  refine sx_scld hs dL_law_730 ⟨by omega, by omega⟩ ?_
  refine sx_callVi lk_L_91 cl_11 s_0 (by decide) dL_law_731 (vs := [_, _]) rfl rfl (Nat.le_of_ble_eq_true rfl) (Nat.le_of_ble_eq_true rfl) rfl (f_X11_differs _ hP.1 _ _ Fh) (fun z1 h2 ph2 => ?_)
  have Ph2 : PP h2 := PP_1 ph2.1 hP
  have Mh2 : FM h2 := FM_of (fun a k q => ph2.1.2 a k (by simp [pr1, q])) Mh
  refine sx_aload_n dL_law_734 rfl ?_
  refine sx_aload_n dL_law_735 rfl ?_
  refine sx_iload_n dL_law_736 rfl ?_
  refine sx_iconst dL_law_737 ⟨by decide, by decide⟩ ?_
  refine sx_iadd dL_law_738 ?_
  refine sy_topw (by omega) ?_
  refine sx_scld hs dL_law_739 ⟨by omega, by omega⟩ ?_
  refine sx_aload_n dL_law_740 rfl ?_
  refine sx_iload_n dL_law_741 rfl ?_
  refine sx_iconst dL_law_742 ⟨by decide, by decide⟩ ?_
  refine sx_iadd dL_law_743 ?_
  refine sy_topw (by omega) ?_
  refine sx_scld hs dL_law_744 ⟨by omega, by omega⟩ ?_
  refine sx_callVi lk_L_94 cl_12 s_224 (by decide) dL_law_745 (vs := [_, _]) rfl rfl (Nat.le_of_ble_eq_true rfl) (Nat.le_of_ble_eq_true rfl) rfl (f_X12_differs _ Ph2.2.1 _ _ Ph2.2.2.1 Mh2) (fun z3 h4 ph4 => ?_)
  refine sx_icmp_eq (tgt := 1553) dL_law_748 (by decide) (fun c5 => ?_) (fun c5 => ?_)
  ·
    exact kk _
  ·
    exact absurd (ph2.2.trans ph4.2.2.2.symm) c5
set_option maxRecDepth 20000 in
set_option maxHeartbeats 4000000 in
theorem t_L_19 {G : sw_G} {d : Nat} {L : Nat} {xs : Nat → Int32} {i : Int} {h : sw_H} {Q : Option sw_V → sw_H → Prop} (hs : SC G L xs) (hP : PP h) (Fh : FC h) (Mh : FM h) (hi : 0 ≤ i ∧ i + 6 ≤ (L : Int)) (kk : ∀ h1, sw_E G NH SH (d + 158) mL 1553 [some (sw_r 100008), some (sw_r 0), some (sw_r 224), some (sw_i i)] [] h1 Q) : sw_E G NH SH (d + 158) mL 753 [some (sw_r 100008), some (sw_r 0), some (sw_r 224), some (sw_i i)] [] h Q := by
  have hL := hs.2.2
  refine sx_aload_n dL_law_753 rfl ?_
  refine sx_aload_n dL_law_754 rfl ?_
  refine sx_iload_n dL_law_755 rfl ?_
  refine sx_iconst dL_law_756 ⟨by decide, by decide⟩ ?_
  refine sx_iadd dL_law_757 ?_
  refine sy_topw (by omega) ?_
  refine sx_scld hs dL_law_758 ⟨by omega, by omega⟩ ?_
  refine sx_aload_n dL_law_759 rfl ?_
  refine sx_iload_n dL_law_760 rfl ?_
  refine sx_iconst dL_law_761 ⟨by decide, by decide⟩ ?_
  refine sx_iadd dL_law_762 ?_
  refine sy_topw (by omega) ?_
  refine sx_scld hs dL_law_763 ⟨by omega, by omega⟩ ?_
  refine sx_callVi lk_L_95 cl_11 s_0 (by decide) dL_law_764 (vs := [_, _]) rfl rfl (Nat.le_of_ble_eq_true rfl) (Nat.le_of_ble_eq_true rfl) rfl (x_X11_shortest _ hP.1 _ _) (fun z1 h2 ph2 => ?_)
  have Ph2 : PP h2 := PP_1 ph2.1 hP
  have Mh2 : FM h2 := FM_of (fun a k q => ph2.1.2 a k (by simp [pr1, q])) Mh
  refine sx_aload_n dL_law_767 rfl ?_
  refine sx_aload_n dL_law_768 rfl ?_
  refine sx_iload_n dL_law_769 rfl ?_
  refine sx_iconst dL_law_770 ⟨by decide, by decide⟩ ?_
  refine sx_iadd dL_law_771 ?_
  refine sy_topw (by omega) ?_
  refine sx_scld hs dL_law_772 ⟨by omega, by omega⟩ ?_
  refine sx_aload_n dL_law_773 rfl ?_
  refine sx_iload_n dL_law_774 rfl ?_
  refine sx_iconst dL_law_775 ⟨by decide, by decide⟩ ?_
  refine sx_iadd dL_law_776 ?_
  refine sy_topw (by omega) ?_
  refine sx_scld hs dL_law_777 ⟨by omega, by omega⟩ ?_
  refine sx_callVi lk_L_98 cl_12 s_224 (by decide) dL_law_778 (vs := [_, _]) rfl rfl (Nat.le_of_ble_eq_true rfl) (Nat.le_of_ble_eq_true rfl) rfl (x_X12_shortest _ Ph2.2.1 _ _ Ph2.2.2.1) (fun z3 h4 ph4 => ?_)
  refine sx_icmp_eq (tgt := 1553) dL_law_781 (by decide) (fun c5 => ?_) (fun c5 => ?_)
  ·
    exact kk _
  ·
    exact absurd (ph2.2.trans ph4.2.2.2.symm) c5
set_option maxRecDepth 20000 in
set_option maxHeartbeats 4000000 in
theorem t_L_20 {G : sw_G} {d : Nat} {L : Nat} {xs : Nat → Int32} {i : Int} {h : sw_H} {Q : Option sw_V → sw_H → Prop} (hs : SC G L xs) (hP : PP h) (Fh : FC h) (Mh : FM h) (hi : 0 ≤ i ∧ i + 6 ≤ (L : Int)) (kk : ∀ h1, sw_E G NH SH (d + 158) mL 1553 [some (sw_r 100008), some (sw_r 0), some (sw_r 224), some (sw_i i)] [] h1 Q) : sw_E G NH SH (d + 158) mL 786 [some (sw_r 100008), some (sw_r 0), some (sw_r 224), some (sw_i i)] [] h Q := by
  have hL := hs.2.2
  refine sx_aload_n dL_law_786 rfl ?_
  refine sx_aload_n dL_law_787 rfl ?_
  refine sx_iload_n dL_law_788 rfl ?_
  refine sx_iconst dL_law_789 ⟨by decide, by decide⟩ ?_
  refine sx_iadd dL_law_790 ?_
  refine sy_topw (by omega) ?_
  refine sx_scld hs dL_law_791 ⟨by omega, by omega⟩ ?_
  refine sx_aload_n dL_law_792 rfl ?_
  refine sx_iload_n dL_law_793 rfl ?_
  refine sx_iconst dL_law_794 ⟨by decide, by decide⟩ ?_
  refine sx_iadd dL_law_795 ?_
  refine sy_topw (by omega) ?_
  refine sx_scld hs dL_law_796 ⟨by omega, by omega⟩ ?_
  refine sx_callVi lk_L_99 cl_11 s_0 (by decide) dL_law_797 (vs := [_, _]) rfl rfl (Nat.le_of_ble_eq_true rfl) (Nat.le_of_ble_eq_true rfl) rfl (f_X11_cheapest _ hP.1 _ _ Fh) (fun z1 h2 ph2 => ?_)
  have Ph2 : PP h2 := PP_1 ph2.1 hP
  have Mh2 : FM h2 := FM_of (fun a k q => ph2.1.2 a k (by simp [pr1, q])) Mh
  refine sx_aload_n dL_law_800 rfl ?_
  refine sx_aload_n dL_law_801 rfl ?_
  refine sx_iload_n dL_law_802 rfl ?_
  refine sx_iconst dL_law_803 ⟨by decide, by decide⟩ ?_
  refine sx_iadd dL_law_804 ?_
  refine sy_topw (by omega) ?_
  refine sx_scld hs dL_law_805 ⟨by omega, by omega⟩ ?_
  refine sx_aload_n dL_law_806 rfl ?_
  refine sx_iload_n dL_law_807 rfl ?_
  refine sx_iconst dL_law_808 ⟨by decide, by decide⟩ ?_
  refine sx_iadd dL_law_809 ?_
  refine sy_topw (by omega) ?_
  refine sx_scld hs dL_law_810 ⟨by omega, by omega⟩ ?_
  refine sx_callVi lk_L_102 cl_12 s_224 (by decide) dL_law_811 (vs := [_, _]) rfl rfl (Nat.le_of_ble_eq_true rfl) (Nat.le_of_ble_eq_true rfl) rfl (f_X12_cheapest _ Ph2.2.1 _ _ Ph2.2.2.1 Mh2) (fun z3 h4 ph4 => ?_)
  refine sx_icmp_eq (tgt := 1553) dL_law_814 (by decide) (fun c5 => ?_) (fun c5 => ?_)
  ·
    exact kk _
  ·
    exact absurd (ph2.2.trans ph4.2.symm) c5
set_option maxRecDepth 20000 in
set_option maxHeartbeats 4000000 in
theorem t_L_21 {G : sw_G} {d : Nat} {L : Nat} {xs : Nat → Int32} {i : Int} {h : sw_H} {Q : Option sw_V → sw_H → Prop} (hs : SC G L xs) (hP : PP h) (Fh : FC h) (Mh : FM h) (hi : 0 ≤ i ∧ i + 6 ≤ (L : Int)) (kk : ∀ h1, sw_E G NH SH (d + 158) mL 1553 [some (sw_r 100008), some (sw_r 0), some (sw_r 224), some (sw_i i)] [] h1 Q) : sw_E G NH SH (d + 158) mL 819 [some (sw_r 100008), some (sw_r 0), some (sw_r 224), some (sw_i i)] [] h Q := by
  have hL := hs.2.2
  refine sx_aload_n dL_law_819 rfl ?_
  refine sx_aload_n dL_law_820 rfl ?_
  refine sx_iload_n dL_law_821 rfl ?_
  refine sx_iconst dL_law_822 ⟨by decide, by decide⟩ ?_
  refine sx_iadd dL_law_823 ?_
  refine sy_topw (by omega) ?_
  refine sx_scld hs dL_law_824 ⟨by omega, by omega⟩ ?_
  refine sx_aload_n dL_law_825 rfl ?_
  refine sx_iload_n dL_law_826 rfl ?_
  refine sx_iconst dL_law_827 ⟨by decide, by decide⟩ ?_
  refine sx_iadd dL_law_828 ?_
  refine sy_topw (by omega) ?_
  refine sx_scld hs dL_law_829 ⟨by omega, by omega⟩ ?_
  refine sx_callVi lk_L_103 cl_11 s_0 (by decide) dL_law_830 (vs := [_, _]) rfl rfl (Nat.le_of_ble_eq_true rfl) (Nat.le_of_ble_eq_true rfl) rfl (x_X11_shuffled _ hP.1 _ _) (fun z1 h2 ph2 => ?_)
  have Ph2 : PP h2 := PP_1 ph2.1 hP
  have Mh2 : FM h2 := FM_of (fun a k q => ph2.1.2 a k (by simp [pr1, q])) Mh
  refine sx_aload_n dL_law_833 rfl ?_
  refine sx_aload_n dL_law_834 rfl ?_
  refine sx_iload_n dL_law_835 rfl ?_
  refine sx_iconst dL_law_836 ⟨by decide, by decide⟩ ?_
  refine sx_iadd dL_law_837 ?_
  refine sy_topw (by omega) ?_
  refine sx_scld hs dL_law_838 ⟨by omega, by omega⟩ ?_
  refine sx_aload_n dL_law_839 rfl ?_
  refine sx_iload_n dL_law_840 rfl ?_
  refine sx_iconst dL_law_841 ⟨by decide, by decide⟩ ?_
  refine sx_iadd dL_law_842 ?_
  refine sy_topw (by omega) ?_
  refine sx_scld hs dL_law_843 ⟨by omega, by omega⟩ ?_
  refine sx_callVi lk_L_106 cl_12 s_224 (by decide) dL_law_844 (vs := [_, _]) rfl rfl (Nat.le_of_ble_eq_true rfl) (Nat.le_of_ble_eq_true rfl) rfl (x_X12_shuffled _ Ph2.2.1 _ _ Ph2.2.2.1) (fun z3 h4 ph4 => ?_)
  refine sx_icmp_eq (tgt := 1553) dL_law_847 (by decide) (fun c5 => ?_) (fun c5 => ?_)
  ·
    exact kk _
  ·
    exact absurd (ph2.2.trans ph4.2.2.2.symm) c5
set_option maxRecDepth 20000 in
set_option maxHeartbeats 4000000 in
theorem t_L_22 {G : sw_G} {d : Nat} {L : Nat} {xs : Nat → Int32} {i : Int} {h : sw_H} {Q : Option sw_V → sw_H → Prop} (hs : SC G L xs) (hP : PP h) (Fh : FC h) (Mh : FM h) (hi : 0 ≤ i ∧ i + 6 ≤ (L : Int)) (kk : ∀ h1, sw_E G NH SH (d + 158) mL 1553 [some (sw_r 100008), some (sw_r 0), some (sw_r 224), some (sw_i i)] [] h1 Q) : sw_E G NH SH (d + 158) mL 852 [some (sw_r 100008), some (sw_r 0), some (sw_r 224), some (sw_i i)] [] h Q := by
  have hL := hs.2.2
  refine sx_aload_n dL_law_852 rfl ?_
  refine sx_aload_n dL_law_853 rfl ?_
  refine sx_iload_n dL_law_854 rfl ?_
  refine sx_iconst dL_law_855 ⟨by decide, by decide⟩ ?_
  refine sx_iadd dL_law_856 ?_
  refine sy_topw (by omega) ?_
  refine sx_scld hs dL_law_857 ⟨by omega, by omega⟩ ?_
  refine sx_callVi lk_L_107 cl_11 s_0 (by decide) dL_law_858 (vs := [_]) rfl rfl (Nat.le_of_ble_eq_true rfl) (Nat.le_of_ble_eq_true rfl) rfl (f_X11_tidy _ hP.1 _ Fh) (fun z1 h2 ph2 => ?_)
  have Ph2 : PP h2 := PP_1 ph2.1 hP
  have Mh2 : FM h2 := FM_of (fun a k q => ph2.1.2 a k (by simp [pr1, q])) Mh
  refine sx_aload_n dL_law_861 rfl ?_
  refine sx_aload_n dL_law_862 rfl ?_
  refine sx_iload_n dL_law_863 rfl ?_
  refine sx_iconst dL_law_864 ⟨by decide, by decide⟩ ?_
  refine sx_iadd dL_law_865 ?_
  refine sy_topw (by omega) ?_
  refine sx_scld hs dL_law_866 ⟨by omega, by omega⟩ ?_
  refine sx_callVi lk_L_110 cl_12 s_224 (by decide) dL_law_867 (vs := [_]) rfl rfl (Nat.le_of_ble_eq_true rfl) (Nat.le_of_ble_eq_true rfl) rfl (f_X12_tidy _ Ph2.2.1 _ Ph2.2.2.1 Mh2) (fun z3 h4 ph4 => ?_)
  refine sx_icmp_eq (tgt := 1553) dL_law_870 (by decide) (fun c5 => ?_) (fun c5 => ?_)
  ·
    exact kk _
  ·
    exact absurd (ph2.2.trans ph4.2.2.2.symm) c5
set_option maxRecDepth 20000 in
set_option maxHeartbeats 4000000 in
theorem t_L_23 {G : sw_G} {d : Nat} {L : Nat} {xs : Nat → Int32} {i : Int} {h : sw_H} {Q : Option sw_V → sw_H → Prop} (hs : SC G L xs) (hP : PP h) (Fh : FC h) (Mh : FM h) (hi : 0 ≤ i ∧ i + 6 ≤ (L : Int)) (kk : ∀ h1, sw_E G NH SH (d + 158) mL 1553 [some (sw_r 100008), some (sw_r 0), some (sw_r 224), some (sw_i i)] [] h1 Q) : sw_E G NH SH (d + 158) mL 875 [some (sw_r 100008), some (sw_r 0), some (sw_r 224), some (sw_i i)] [] h Q := by
  have hL := hs.2.2
  refine sx_aload_n dL_law_875 rfl ?_
  refine sx_aload_n dL_law_876 rfl ?_
  refine sx_iload_n dL_law_877 rfl ?_
  refine sx_iconst dL_law_878 ⟨by decide, by decide⟩ ?_
  refine sx_iadd dL_law_879 ?_
  refine sy_topw (by omega) ?_
  refine sx_scld hs dL_law_880 ⟨by omega, by omega⟩ ?_
  refine sx_aload_n dL_law_881 rfl ?_
  refine sx_iload_n dL_law_882 rfl ?_
  refine sx_iconst dL_law_883 ⟨by decide, by decide⟩ ?_
  refine sx_iadd dL_law_884 ?_
  refine sy_topw (by omega) ?_
  refine sx_scld hs dL_law_885 ⟨by omega, by omega⟩ ?_
  refine sx_callVi lk_L_111 cl_11 s_0 (by decide) dL_law_886 (vs := [_, _]) rfl rfl (Nat.le_of_ble_eq_true rfl) (Nat.le_of_ble_eq_true rfl) rfl (f_X11_takes _ hP.1 _ _ Fh) (fun z1 h2 ph2 => ?_)
  have Ph2 : PP h2 := PP_1 ph2.1 hP
  have Mh2 : FM h2 := FM_of (fun a k q => ph2.1.2 a k (by simp [pr1, q])) Mh
  refine sx_aload_n dL_law_889 rfl ?_
  refine sx_aload_n dL_law_890 rfl ?_
  refine sx_iload_n dL_law_891 rfl ?_
  refine sx_iconst dL_law_892 ⟨by decide, by decide⟩ ?_
  refine sx_iadd dL_law_893 ?_
  refine sy_topw (by omega) ?_
  refine sx_scld hs dL_law_894 ⟨by omega, by omega⟩ ?_
  refine sx_aload_n dL_law_895 rfl ?_
  refine sx_iload_n dL_law_896 rfl ?_
  refine sx_iconst dL_law_897 ⟨by decide, by decide⟩ ?_
  refine sx_iadd dL_law_898 ?_
  refine sy_topw (by omega) ?_
  refine sx_scld hs dL_law_899 ⟨by omega, by omega⟩ ?_
  refine sx_callVi lk_L_114 cl_12 s_224 (by decide) dL_law_900 (vs := [_, _]) rfl rfl (Nat.le_of_ble_eq_true rfl) (Nat.le_of_ble_eq_true rfl) rfl (f_X12_takes _ Ph2.2.1 _ _ Ph2.2.2.1 Mh2) (fun z3 h4 ph4 => ?_)
  refine sx_icmp_eq (tgt := 1553) dL_law_903 (by decide) (fun c5 => ?_) (fun c5 => ?_)
  ·
    exact kk _
  ·
    exact absurd (ph2.2.trans ph4.2.2.2.symm) c5
set_option maxRecDepth 20000 in
set_option maxHeartbeats 4000000 in
theorem t_L_24 {G : sw_G} {d : Nat} {L : Nat} {xs : Nat → Int32} {i : Int} {h : sw_H} {Q : Option sw_V → sw_H → Prop} (hs : SC G L xs) (hP : PP h) (Fh : FC h) (Mh : FM h) (hi : 0 ≤ i ∧ i + 6 ≤ (L : Int)) (kk : ∀ h1, sw_E G NH SH (d + 158) mL 1553 [some (sw_r 100008), some (sw_r 0), some (sw_r 224), some (sw_i i)] [] h1 Q) : sw_E G NH SH (d + 158) mL 908 [some (sw_r 100008), some (sw_r 0), some (sw_r 224), some (sw_i i)] [] h Q := by
  have hL := hs.2.2
  refine sx_aload_n dL_law_908 rfl ?_
  refine sx_aload_n dL_law_909 rfl ?_
  refine sx_iload_n dL_law_910 rfl ?_
  refine sx_iconst dL_law_911 ⟨by decide, by decide⟩ ?_
  refine sx_iadd dL_law_912 ?_
  refine sy_topw (by omega) ?_
  refine sx_scld hs dL_law_913 ⟨by omega, by omega⟩ ?_
  refine sx_aload_n dL_law_914 rfl ?_
  refine sx_iload_n dL_law_915 rfl ?_
  refine sx_iconst dL_law_916 ⟨by decide, by decide⟩ ?_
  refine sx_iadd dL_law_917 ?_
  refine sy_topw (by omega) ?_
  refine sx_scld hs dL_law_918 ⟨by omega, by omega⟩ ?_
  refine sx_callVi lk_L_115 cl_11 s_0 (by decide) dL_law_919 (vs := [_, _]) rfl rfl (Nat.le_of_ble_eq_true rfl) (Nat.le_of_ble_eq_true rfl) rfl (f_X11_time _ hP.1 _ _ Fh) (fun z1 h2 ph2 => ?_)
  have Ph2 : PP h2 := PP_1 ph2.1 hP
  have Mh2 : FM h2 := FM_of (fun a k q => ph2.1.2 a k (by simp [pr1, q])) Mh
  refine sx_aload_n dL_law_922 rfl ?_
  refine sx_aload_n dL_law_923 rfl ?_
  refine sx_iload_n dL_law_924 rfl ?_
  refine sx_iconst dL_law_925 ⟨by decide, by decide⟩ ?_
  refine sx_iadd dL_law_926 ?_
  refine sy_topw (by omega) ?_
  refine sx_scld hs dL_law_927 ⟨by omega, by omega⟩ ?_
  refine sx_aload_n dL_law_928 rfl ?_
  refine sx_iload_n dL_law_929 rfl ?_
  refine sx_iconst dL_law_930 ⟨by decide, by decide⟩ ?_
  refine sx_iadd dL_law_931 ?_
  refine sy_topw (by omega) ?_
  refine sx_scld hs dL_law_932 ⟨by omega, by omega⟩ ?_
  refine sx_callVi lk_L_118 cl_12 s_224 (by decide) dL_law_933 (vs := [_, _]) rfl rfl (Nat.le_of_ble_eq_true rfl) (Nat.le_of_ble_eq_true rfl) rfl (f_X12_time _ Ph2.2.1 _ _ Ph2.2.2.1 Mh2) (fun z3 h4 ph4 => ?_)
  refine sx_icmp_eq (tgt := 1553) dL_law_936 (by decide) (fun c5 => ?_) (fun c5 => ?_)
  ·
    exact kk _
  ·
    exact absurd (ph2.2.trans ph4.2.2.2.symm) c5
set_option maxRecDepth 20000 in
set_option maxHeartbeats 4000000 in
theorem t_L_25 {G : sw_G} {d : Nat} {L : Nat} {xs : Nat → Int32} {i : Int} {h : sw_H} {Q : Option sw_V → sw_H → Prop} (hs : SC G L xs) (hP : PP h) (Fh : FC h) (Mh : FM h) (hi : 0 ≤ i ∧ i + 6 ≤ (L : Int)) (kk : ∀ h1, sw_E G NH SH (d + 158) mL 1553 [some (sw_r 100008), some (sw_r 0), some (sw_r 224), some (sw_i i)] [] h1 Q) : sw_E G NH SH (d + 158) mL 941 [some (sw_r 100008), some (sw_r 0), some (sw_r 224), some (sw_i i)] [] h Q := by
  have hL := hs.2.2
  refine sx_aload_n dL_law_941 rfl ?_
  refine sx_aload_n dL_law_942 rfl ?_
  refine sx_iload_n dL_law_943 rfl ?_
  refine sx_iconst dL_law_944 ⟨by decide, by decide⟩ ?_
  refine sx_iadd dL_law_945 ?_
  refine sy_topw (by omega) ?_
  refine sx_scld hs dL_law_946 ⟨by omega, by omega⟩ ?_
  refine sx_aload_n dL_law_947 rfl ?_
  refine sx_iload_n dL_law_948 rfl ?_
  refine sx_iconst dL_law_949 ⟨by decide, by decide⟩ ?_
  refine sx_iadd dL_law_950 ?_
  refine sy_topw (by omega) ?_
  refine sx_scld hs dL_law_951 ⟨by omega, by omega⟩ ?_
  refine sx_callVi lk_L_119 cl_11 s_0 (by decide) dL_law_952 (vs := [_, _]) rfl rfl (Nat.le_of_ble_eq_true rfl) (Nat.le_of_ble_eq_true rfl) rfl (f_X11_room _ hP.1 _ _ Fh) (fun z1 h2 ph2 => ?_)
  have Ph2 : PP h2 := PP_1 ph2.1 hP
  have Mh2 : FM h2 := FM_of (fun a k q => ph2.1.2 a k (by simp [pr1, q])) Mh
  refine sx_aload_n dL_law_955 rfl ?_
  refine sx_aload_n dL_law_956 rfl ?_
  refine sx_iload_n dL_law_957 rfl ?_
  refine sx_iconst dL_law_958 ⟨by decide, by decide⟩ ?_
  refine sx_iadd dL_law_959 ?_
  refine sy_topw (by omega) ?_
  refine sx_scld hs dL_law_960 ⟨by omega, by omega⟩ ?_
  refine sx_aload_n dL_law_961 rfl ?_
  refine sx_iload_n dL_law_962 rfl ?_
  refine sx_iconst dL_law_963 ⟨by decide, by decide⟩ ?_
  refine sx_iadd dL_law_964 ?_
  refine sy_topw (by omega) ?_
  refine sx_scld hs dL_law_965 ⟨by omega, by omega⟩ ?_
  refine sx_callVi lk_L_122 cl_12 s_224 (by decide) dL_law_966 (vs := [_, _]) rfl rfl (Nat.le_of_ble_eq_true rfl) (Nat.le_of_ble_eq_true rfl) rfl (f_X12_room _ Ph2.2.1 _ _ Ph2.2.2.1 Mh2) (fun z3 h4 ph4 => ?_)
  refine sx_icmp_eq (tgt := 1553) dL_law_969 (by decide) (fun c5 => ?_) (fun c5 => ?_)
  ·
    exact kk _
  ·
    exact absurd (ph2.2.trans ph4.2.2.2.symm) c5
set_option maxRecDepth 20000 in
set_option maxHeartbeats 4000000 in
theorem t_L_26 {G : sw_G} {d : Nat} {L : Nat} {xs : Nat → Int32} {i : Int} {h : sw_H} {Q : Option sw_V → sw_H → Prop} (hs : SC G L xs) (hP : PP h) (Fh : FC h) (Mh : FM h) (hi : 0 ≤ i ∧ i + 6 ≤ (L : Int)) (kk : ∀ h1, sw_E G NH SH (d + 158) mL 1553 [some (sw_r 100008), some (sw_r 0), some (sw_r 224), some (sw_i i)] [] h1 Q) : sw_E G NH SH (d + 158) mL 974 [some (sw_r 100008), some (sw_r 0), some (sw_r 224), some (sw_i i)] [] h Q := by
  have hL := hs.2.2
  refine sx_aload_n dL_law_974 rfl ?_
  refine sx_aload_n dL_law_975 rfl ?_
  refine sx_iload_n dL_law_976 rfl ?_
  refine sx_iconst dL_law_977 ⟨by decide, by decide⟩ ?_
  refine sx_iadd dL_law_978 ?_
  refine sy_topw (by omega) ?_
  refine sx_scld hs dL_law_979 ⟨by omega, by omega⟩ ?_
  refine sx_callVi lk_L_123 cl_11 s_0 (by decide) dL_law_980 (vs := [_]) rfl rfl (Nat.le_of_ble_eq_true rfl) (Nat.le_of_ble_eq_true rfl) rfl (f_X11_best _ hP.1 _ Fh) (fun z1 h2 ph2 => ?_)
  have Ph2 : PP h2 := PP_1 ph2.1 hP
  have Mh2 : FM h2 := FM_of (fun a k q => ph2.1.2 a k (by simp [pr1, q])) Mh
  refine sx_aload_n dL_law_983 rfl ?_
  refine sx_aload_n dL_law_984 rfl ?_
  refine sx_iload_n dL_law_985 rfl ?_
  refine sx_iconst dL_law_986 ⟨by decide, by decide⟩ ?_
  refine sx_iadd dL_law_987 ?_
  refine sy_topw (by omega) ?_
  refine sx_scld hs dL_law_988 ⟨by omega, by omega⟩ ?_
  refine sx_callVi lk_L_126 cl_12 s_224 (by decide) dL_law_989 (vs := [_]) rfl rfl (Nat.le_of_ble_eq_true rfl) (Nat.le_of_ble_eq_true rfl) rfl (f_X12_best _ Ph2.2.1 _ Ph2.2.2.1 Mh2) (fun z3 h4 ph4 => ?_)
  refine sx_icmp_eq (tgt := 1553) dL_law_992 (by decide) (fun c5 => ?_) (fun c5 => ?_)
  ·
    exact kk _
  ·
    exact absurd (ph2.2.trans ph4.2.2.2.symm) c5
set_option maxRecDepth 20000 in
set_option maxHeartbeats 4000000 in
theorem t_L_27 {G : sw_G} {d : Nat} {L : Nat} {xs : Nat → Int32} {i : Int} {h : sw_H} {Q : Option sw_V → sw_H → Prop} (hs : SC G L xs) (hP : PP h) (Fh : FC h) (Mh : FM h) (hi : 0 ≤ i ∧ i + 6 ≤ (L : Int)) (kk : ∀ h1, sw_E G NH SH (d + 158) mL 1553 [some (sw_r 100008), some (sw_r 0), some (sw_r 224), some (sw_i i)] [] h1 Q) : sw_E G NH SH (d + 158) mL 997 [some (sw_r 100008), some (sw_r 0), some (sw_r 224), some (sw_i i)] [] h Q := by
  have hL := hs.2.2
  refine sx_aload_n dL_law_997 rfl ?_
  refine sx_aload_n dL_law_998 rfl ?_
  refine sx_iload_n dL_law_999 rfl ?_
  refine sx_iconst dL_law_1000 ⟨by decide, by decide⟩ ?_
  refine sx_iadd dL_law_1001 ?_
  refine sy_topw (by omega) ?_
  refine sx_scld hs dL_law_1002 ⟨by omega, by omega⟩ ?_
  refine sx_callVi lk_L_127 cl_11 s_0 (by decide) dL_law_1003 (vs := [_]) rfl rfl (Nat.le_of_ble_eq_true rfl) (Nat.le_of_ble_eq_true rfl) rfl (f_X11_total _ hP.1 _ Fh) (fun z1 h2 ph2 => ?_)
  have Ph2 : PP h2 := PP_1 ph2.1 hP
  have Mh2 : FM h2 := FM_of (fun a k q => ph2.1.2 a k (by simp [pr1, q])) Mh
  refine sx_aload_n dL_law_1006 rfl ?_
  refine sx_aload_n dL_law_1007 rfl ?_
  refine sx_iload_n dL_law_1008 rfl ?_
  refine sx_iconst dL_law_1009 ⟨by decide, by decide⟩ ?_
  refine sx_iadd dL_law_1010 ?_
  refine sy_topw (by omega) ?_
  refine sx_scld hs dL_law_1011 ⟨by omega, by omega⟩ ?_
  refine sx_callVi lk_L_130 cl_12 s_224 (by decide) dL_law_1012 (vs := [_]) rfl rfl (Nat.le_of_ble_eq_true rfl) (Nat.le_of_ble_eq_true rfl) rfl (f_X12_total _ Ph2.2.1 _ Ph2.2.2.1 Mh2) (fun z3 h4 ph4 => ?_)
  refine sx_icmp_eq (tgt := 1553) dL_law_1015 (by decide) (fun c5 => ?_) (fun c5 => ?_)
  ·
    exact kk _
  ·
    exact absurd (ph2.2.trans ph4.2.2.2.symm) c5
set_option maxRecDepth 20000 in
set_option maxHeartbeats 4000000 in
theorem t_L_28 {G : sw_G} {d : Nat} {L : Nat} {xs : Nat → Int32} {i : Int} {h : sw_H} {Q : Option sw_V → sw_H → Prop} (hs : SC G L xs) (hP : PP h) (Fh : FC h) (Mh : FM h) (hi : 0 ≤ i ∧ i + 6 ≤ (L : Int)) (kk : ∀ h1, sw_E G NH SH (d + 158) mL 1553 [some (sw_r 100008), some (sw_r 0), some (sw_r 224), some (sw_i i)] [] h1 Q) : sw_E G NH SH (d + 158) mL 1020 [some (sw_r 100008), some (sw_r 0), some (sw_r 224), some (sw_i i)] [] h Q := by
  have hL := hs.2.2
  refine sx_aload_n dL_law_1020 rfl ?_
  refine sx_aload_n dL_law_1021 rfl ?_
  refine sx_iload_n dL_law_1022 rfl ?_
  refine sx_iconst dL_law_1023 ⟨by decide, by decide⟩ ?_
  refine sx_iadd dL_law_1024 ?_
  refine sy_topw (by omega) ?_
  refine sx_scld hs dL_law_1025 ⟨by omega, by omega⟩ ?_
  refine sx_callVi lk_L_131 cl_11 s_0 (by decide) dL_law_1026 (vs := [_]) rfl rfl (Nat.le_of_ble_eq_true rfl) (Nat.le_of_ble_eq_true rfl) rfl (f_X11_calls _ hP.1 _ Fh) (fun z1 h2 ph2 => ?_)
  have Ph2 : PP h2 := PP_1 ph2.1 hP
  have Mh2 : FM h2 := FM_of (fun a k q => ph2.1.2 a k (by simp [pr1, q])) Mh
  refine sx_aload_n dL_law_1029 rfl ?_
  refine sx_aload_n dL_law_1030 rfl ?_
  refine sx_iload_n dL_law_1031 rfl ?_
  refine sx_iconst dL_law_1032 ⟨by decide, by decide⟩ ?_
  refine sx_iadd dL_law_1033 ?_
  refine sy_topw (by omega) ?_
  refine sx_scld hs dL_law_1034 ⟨by omega, by omega⟩ ?_
  refine sx_callVi lk_L_134 cl_12 s_224 (by decide) dL_law_1035 (vs := [_]) rfl rfl (Nat.le_of_ble_eq_true rfl) (Nat.le_of_ble_eq_true rfl) rfl (f_X12_calls _ Ph2.2.1 _ Ph2.2.2.1 Mh2) (fun z3 h4 ph4 => ?_)
  refine sx_icmp_eq (tgt := 1553) dL_law_1038 (by decide) (fun c5 => ?_) (fun c5 => ?_)
  ·
    exact kk _
  ·
    exact absurd (ph2.2.trans ph4.2.symm) c5
set_option maxRecDepth 20000 in
set_option maxHeartbeats 4000000 in
theorem t_L_29 {G : sw_G} {d : Nat} {L : Nat} {xs : Nat → Int32} {i : Int} {h : sw_H} {Q : Option sw_V → sw_H → Prop} (hs : SC G L xs) (hP : PP h) (Fh : FC h) (Mh : FM h) (hi : 0 ≤ i ∧ i + 6 ≤ (L : Int)) (kk : ∀ h1, sw_E G NH SH (d + 158) mL 1553 [some (sw_r 100008), some (sw_r 0), some (sw_r 224), some (sw_i i)] [] h1 Q) : sw_E G NH SH (d + 158) mL 1043 [some (sw_r 100008), some (sw_r 0), some (sw_r 224), some (sw_i i)] [] h Q := by
  have hL := hs.2.2
  refine sx_aload_n dL_law_1043 rfl ?_
  refine sx_aload_n dL_law_1044 rfl ?_
  refine sx_iload_n dL_law_1045 rfl ?_
  refine sx_iconst dL_law_1046 ⟨by decide, by decide⟩ ?_
  refine sx_iadd dL_law_1047 ?_
  refine sy_topw (by omega) ?_
  refine sx_scld hs dL_law_1048 ⟨by omega, by omega⟩ ?_
  refine sx_callVi lk_L_135 cl_11 s_0 (by decide) dL_law_1049 (vs := [_]) rfl rfl (Nat.le_of_ble_eq_true rfl) (Nat.le_of_ble_eq_true rfl) rfl (f_X11_callers _ hP.1 _ Fh) (fun z1 h2 ph2 => ?_)
  have Ph2 : PP h2 := PP_1 ph2.1 hP
  have Mh2 : FM h2 := FM_of (fun a k q => ph2.1.2 a k (by simp [pr1, q])) Mh
  refine sx_aload_n dL_law_1052 rfl ?_
  refine sx_aload_n dL_law_1053 rfl ?_
  refine sx_iload_n dL_law_1054 rfl ?_
  refine sx_iconst dL_law_1055 ⟨by decide, by decide⟩ ?_
  refine sx_iadd dL_law_1056 ?_
  refine sy_topw (by omega) ?_
  refine sx_scld hs dL_law_1057 ⟨by omega, by omega⟩ ?_
  refine sx_callVi lk_L_138 cl_12 s_224 (by decide) dL_law_1058 (vs := [_]) rfl rfl (Nat.le_of_ble_eq_true rfl) (Nat.le_of_ble_eq_true rfl) rfl (f_X12_callers _ Ph2.2.1 _ Ph2.2.2.1 Mh2) (fun z3 h4 ph4 => ?_)
  refine sx_icmp_eq (tgt := 1553) dL_law_1061 (by decide) (fun c5 => ?_) (fun c5 => ?_)
  ·
    exact kk _
  ·
    exact absurd (ph2.2.trans ph4.2.symm) c5
set_option maxRecDepth 20000 in
set_option maxHeartbeats 4000000 in
theorem t_L_30 {G : sw_G} {d : Nat} {L : Nat} {xs : Nat → Int32} {i : Int} {h : sw_H} {Q : Option sw_V → sw_H → Prop} (hs : SC G L xs) (hP : PP h) (Fh : FC h) (Mh : FM h) (hi : 0 ≤ i ∧ i + 6 ≤ (L : Int)) (kk : ∀ h1, sw_E G NH SH (d + 158) mL 1553 [some (sw_r 100008), some (sw_r 0), some (sw_r 224), some (sw_i i)] [] h1 Q) : sw_E G NH SH (d + 158) mL 1066 [some (sw_r 100008), some (sw_r 0), some (sw_r 224), some (sw_i i)] [] h Q := by
  have hL := hs.2.2
  refine sx_aload_n dL_law_1066 rfl ?_
  refine sx_aload_n dL_law_1067 rfl ?_
  refine sx_iload_n dL_law_1068 rfl ?_
  refine sx_iconst dL_law_1069 ⟨by decide, by decide⟩ ?_
  refine sx_iadd dL_law_1070 ?_
  refine sy_topw (by omega) ?_
  refine sx_scld hs dL_law_1071 ⟨by omega, by omega⟩ ?_
  refine sx_callVi lk_L_139 cl_11 s_0 (by decide) dL_law_1072 (vs := [_]) rfl rfl (Nat.le_of_ble_eq_true rfl) (Nat.le_of_ble_eq_true rfl) rfl (f_X11_nested _ hP.1 _ Fh) (fun z1 h2 ph2 => ?_)
  have Ph2 : PP h2 := PP_1 ph2.1 hP
  have Mh2 : FM h2 := FM_of (fun a k q => ph2.1.2 a k (by simp [pr1, q])) Mh
  refine sx_aload_n dL_law_1075 rfl ?_
  refine sx_aload_n dL_law_1076 rfl ?_
  refine sx_iload_n dL_law_1077 rfl ?_
  refine sx_iconst dL_law_1078 ⟨by decide, by decide⟩ ?_
  refine sx_iadd dL_law_1079 ?_
  refine sy_topw (by omega) ?_
  refine sx_scld hs dL_law_1080 ⟨by omega, by omega⟩ ?_
  refine sx_callVi lk_L_142 cl_12 s_224 (by decide) dL_law_1081 (vs := [_]) rfl rfl (Nat.le_of_ble_eq_true rfl) (Nat.le_of_ble_eq_true rfl) rfl (f_X12_nested _ Ph2.2.1 _ Ph2.2.2.1 Mh2) (fun z3 h4 ph4 => ?_)
  refine sx_icmp_eq (tgt := 1553) dL_law_1084 (by decide) (fun c5 => ?_) (fun c5 => ?_)
  ·
    exact kk _
  ·
    exact absurd (ph2.2.trans ph4.2.2.2.symm) c5
set_option maxRecDepth 20000 in
set_option maxHeartbeats 4000000 in
theorem t_L_31 {G : sw_G} {d : Nat} {L : Nat} {xs : Nat → Int32} {i : Int} {h : sw_H} {Q : Option sw_V → sw_H → Prop} (hs : SC G L xs) (hP : PP h) (Fh : FC h) (Mh : FM h) (hi : 0 ≤ i ∧ i + 6 ≤ (L : Int)) (kk : ∀ h1, sw_E G NH SH (d + 158) mL 1553 [some (sw_r 100008), some (sw_r 0), some (sw_r 224), some (sw_i i)] [] h1 Q) : sw_E G NH SH (d + 158) mL 1089 [some (sw_r 100008), some (sw_r 0), some (sw_r 224), some (sw_i i)] [] h Q := by
  have hL := hs.2.2
  refine sx_aload_n dL_law_1089 rfl ?_
  refine sx_aload_n dL_law_1090 rfl ?_
  refine sx_iload_n dL_law_1091 rfl ?_
  refine sx_iconst dL_law_1092 ⟨by decide, by decide⟩ ?_
  refine sx_iadd dL_law_1093 ?_
  refine sy_topw (by omega) ?_
  refine sx_scld hs dL_law_1094 ⟨by omega, by omega⟩ ?_
  refine sx_callVi lk_L_143 cl_11 s_0 (by decide) dL_law_1095 (vs := [_]) rfl rfl (Nat.le_of_ble_eq_true rfl) (Nat.le_of_ble_eq_true rfl) rfl (f_X11_pick _ hP.1 _ Fh) (fun z1 h2 ph2 => ?_)
  have Ph2 : PP h2 := PP_1 ph2.1 hP
  have Mh2 : FM h2 := FM_of (fun a k q => ph2.1.2 a k (by simp [pr1, q])) Mh
  refine sx_aload_n dL_law_1098 rfl ?_
  refine sx_aload_n dL_law_1099 rfl ?_
  refine sx_iload_n dL_law_1100 rfl ?_
  refine sx_iconst dL_law_1101 ⟨by decide, by decide⟩ ?_
  refine sx_iadd dL_law_1102 ?_
  refine sy_topw (by omega) ?_
  refine sx_scld hs dL_law_1103 ⟨by omega, by omega⟩ ?_
  refine sx_callVi lk_L_146 cl_12 s_224 (by decide) dL_law_1104 (vs := [_]) rfl rfl (Nat.le_of_ble_eq_true rfl) (Nat.le_of_ble_eq_true rfl) rfl (f_X12_pick _ Ph2.2.1 _ Ph2.2.2.1 Mh2) (fun z3 h4 ph4 => ?_)
  refine sx_icmp_eq (tgt := 1553) dL_law_1107 (by decide) (fun c5 => ?_) (fun c5 => ?_)
  ·
    exact kk _
  ·
    exact absurd (ph2.2.trans ph4.2.2.2.symm) c5
set_option maxRecDepth 20000 in
set_option maxHeartbeats 4000000 in
theorem t_L_32 {G : sw_G} {d : Nat} {L : Nat} {xs : Nat → Int32} {i : Int} {h : sw_H} {Q : Option sw_V → sw_H → Prop} (hs : SC G L xs) (hP : PP h) (Fh : FC h) (Mh : FM h) (hi : 0 ≤ i ∧ i + 6 ≤ (L : Int)) (kk : ∀ h1, sw_E G NH SH (d + 158) mL 1553 [some (sw_r 100008), some (sw_r 0), some (sw_r 224), some (sw_i i)] [] h1 Q) : sw_E G NH SH (d + 158) mL 1112 [some (sw_r 100008), some (sw_r 0), some (sw_r 224), some (sw_i i)] [] h Q := by
  have hL := hs.2.2
  refine sx_aload_n dL_law_1112 rfl ?_
  refine sx_callVi lk_L_147 cl_11 s_0 (by decide) dL_law_1113 (vs := []) rfl rfl (Nat.le_of_ble_eq_true rfl) (Nat.le_of_ble_eq_true rfl) rfl (f_X11_commonest _ hP.1  Fh) (fun z1 h2 ph2 => ?_)
  have Ph2 : PP h2 := PP_1 ph2.1 hP
  have Mh2 : FM h2 := FM_of (fun a k q => ph2.1.2 a k (by simp [pr1, q])) Mh
  refine sx_aload_n dL_law_1116 rfl ?_
  refine sx_callVi lk_L_150 cl_12 s_224 (by decide) dL_law_1117 (vs := []) rfl rfl (Nat.le_of_ble_eq_true rfl) (Nat.le_of_ble_eq_true rfl) rfl (f_X12_commonest _ Ph2.2.1  Ph2.2.2.1 Mh2) (fun z3 h4 ph4 => ?_)
  refine sx_icmp_eq (tgt := 1553) dL_law_1120 (by decide) (fun c5 => ?_) (fun c5 => ?_)
  ·
    exact kk _
  ·
    exact absurd (ph2.2.trans ph4.2.symm) c5
set_option maxRecDepth 20000 in
set_option maxHeartbeats 4000000 in
theorem t_L_33 {G : sw_G} {d : Nat} {L : Nat} {xs : Nat → Int32} {i : Int} {h : sw_H} {Q : Option sw_V → sw_H → Prop} (hs : SC G L xs) (hP : PP h) (Fh : FC h) (Mh : FM h) (hi : 0 ≤ i ∧ i + 6 ≤ (L : Int)) (kk : ∀ h1, sw_E G NH SH (d + 158) mL 1553 [some (sw_r 100008), some (sw_r 0), some (sw_r 224), some (sw_i i)] [] h1 Q) : sw_E G NH SH (d + 158) mL 1125 [some (sw_r 100008), some (sw_r 0), some (sw_r 224), some (sw_i i)] [] h Q := by
  have hL := hs.2.2
  refine sx_aload_n dL_law_1125 rfl ?_
  refine sx_aload_n dL_law_1126 rfl ?_
  refine sx_iload_n dL_law_1127 rfl ?_
  refine sx_iconst dL_law_1128 ⟨by decide, by decide⟩ ?_
  refine sx_iadd dL_law_1129 ?_
  refine sy_topw (by omega) ?_
  refine sx_scld hs dL_law_1130 ⟨by omega, by omega⟩ ?_
  refine sx_aload_n dL_law_1131 rfl ?_
  refine sx_iload_n dL_law_1132 rfl ?_
  refine sx_iconst dL_law_1133 ⟨by decide, by decide⟩ ?_
  refine sx_iadd dL_law_1134 ?_
  refine sy_topw (by omega) ?_
  refine sx_scld hs dL_law_1135 ⟨by omega, by omega⟩ ?_
  refine sx_callVi lk_L_151 cl_11 s_0 (by decide) dL_law_1136 (vs := [_, _]) rfl rfl (Nat.le_of_ble_eq_true rfl) (Nat.le_of_ble_eq_true rfl) rfl (f_X11_height _ hP.1 _ _ Fh) (fun z1 h2 ph2 => ?_)
  have Ph2 : PP h2 := PP_1 ph2.1 hP
  have Mh2 : FM h2 := FM_of (fun a k q => ph2.1.2 a k (by simp [pr1, q])) Mh
  refine sx_aload_n dL_law_1139 rfl ?_
  refine sx_aload_n dL_law_1140 rfl ?_
  refine sx_iload_n dL_law_1141 rfl ?_
  refine sx_iconst dL_law_1142 ⟨by decide, by decide⟩ ?_
  refine sx_iadd dL_law_1143 ?_
  refine sy_topw (by omega) ?_
  refine sx_scld hs dL_law_1144 ⟨by omega, by omega⟩ ?_
  refine sx_aload_n dL_law_1145 rfl ?_
  refine sx_iload_n dL_law_1146 rfl ?_
  refine sx_iconst dL_law_1147 ⟨by decide, by decide⟩ ?_
  refine sx_iadd dL_law_1148 ?_
  refine sy_topw (by omega) ?_
  refine sx_scld hs dL_law_1149 ⟨by omega, by omega⟩ ?_
  refine sx_callVi lk_L_154 cl_12 s_224 (by decide) dL_law_1150 (vs := [_, _]) rfl rfl (Nat.le_of_ble_eq_true rfl) (Nat.le_of_ble_eq_true rfl) rfl (f_X12_height _ Ph2.2.1 _ _ Ph2.2.2.1 Mh2) (fun z3 h4 ph4 => ?_)
  refine sx_icmp_eq (tgt := 1553) dL_law_1153 (by decide) (fun c5 => ?_) (fun c5 => ?_)
  ·
    exact kk _
  ·
    exact absurd (ph2.2.trans ph4.2.symm) c5
set_option maxRecDepth 20000 in
set_option maxHeartbeats 4000000 in
theorem t_L_34 {G : sw_G} {d : Nat} {L : Nat} {xs : Nat → Int32} {i : Int} {h : sw_H} {Q : Option sw_V → sw_H → Prop} (hs : SC G L xs) (hP : PP h) (Fh : FC h) (Mh : FM h) (hi : 0 ≤ i ∧ i + 6 ≤ (L : Int)) (kk : ∀ h1, sw_E G NH SH (d + 158) mL 1553 [some (sw_r 100008), some (sw_r 0), some (sw_r 224), some (sw_i i)] [] h1 Q) : sw_E G NH SH (d + 158) mL 1158 [some (sw_r 100008), some (sw_r 0), some (sw_r 224), some (sw_i i)] [] h Q := by
  have hL := hs.2.2
  refine sx_aload_n dL_law_1158 rfl ?_
  refine sx_callVi lk_L_155 cl_11 s_0 (by decide) dL_law_1159 (vs := []) rfl rfl (Nat.le_of_ble_eq_true rfl) (Nat.le_of_ble_eq_true rfl) rfl (f_X11_pure _ hP.1  Fh) (fun z1 h2 ph2 => ?_)
  have Ph2 : PP h2 := PP_1 ph2.1 hP
  have Mh2 : FM h2 := FM_of (fun a k q => ph2.1.2 a k (by simp [pr1, q])) Mh
  refine sx_aload_n dL_law_1162 rfl ?_
  refine sx_callVi lk_L_158 cl_12 s_224 (by decide) dL_law_1163 (vs := []) rfl rfl (Nat.le_of_ble_eq_true rfl) (Nat.le_of_ble_eq_true rfl) rfl (f_X12_pure _ Ph2.2.1  Ph2.2.2.1 Mh2) (fun z3 h4 ph4 => ?_)
  refine sx_icmp_eq (tgt := 1553) dL_law_1166 (by decide) (fun c5 => ?_) (fun c5 => ?_)
  ·
    exact kk _
  ·
    exact absurd (ph2.2.trans ph4.2.symm) c5
set_option maxRecDepth 20000 in
set_option maxHeartbeats 4000000 in
theorem t_L_35 {G : sw_G} {d : Nat} {L : Nat} {xs : Nat → Int32} {i : Int} {h : sw_H} {Q : Option sw_V → sw_H → Prop} (hs : SC G L xs) (hP : PP h) (Fh : FC h) (Mh : FM h) (hi : 0 ≤ i ∧ i + 6 ≤ (L : Int)) (kk : ∀ h1, sw_E G NH SH (d + 158) mL 1553 [some (sw_r 100008), some (sw_r 0), some (sw_r 224), some (sw_i i)] [] h1 Q) : sw_E G NH SH (d + 158) mL 1171 [some (sw_r 100008), some (sw_r 0), some (sw_r 224), some (sw_i i)] [] h Q := by
  have hL := hs.2.2
  refine sx_aload_n dL_law_1171 rfl ?_
  refine sx_aload_n dL_law_1172 rfl ?_
  refine sx_iload_n dL_law_1173 rfl ?_
  refine sx_iconst dL_law_1174 ⟨by decide, by decide⟩ ?_
  refine sx_iadd dL_law_1175 ?_
  refine sy_topw (by omega) ?_
  refine sx_scld hs dL_law_1176 ⟨by omega, by omega⟩ ?_
  refine sx_callVi lk_L_159 cl_11 s_0 (by decide) dL_law_1177 (vs := [_]) rfl rfl (Nat.le_of_ble_eq_true rfl) (Nat.le_of_ble_eq_true rfl) rfl (f_X11_law _ hP.1 _ Fh) (fun z1 h2 ph2 => ?_)
  have Ph2 : PP h2 := PP_1 ph2.1 hP
  have Mh2 : FM h2 := FM_of (fun a k q => ph2.1.2 a k (by simp [pr1, q])) Mh
  refine sx_aload_n dL_law_1180 rfl ?_
  refine sx_aload_n dL_law_1181 rfl ?_
  refine sx_iload_n dL_law_1182 rfl ?_
  refine sx_iconst dL_law_1183 ⟨by decide, by decide⟩ ?_
  refine sx_iadd dL_law_1184 ?_
  refine sy_topw (by omega) ?_
  refine sx_scld hs dL_law_1185 ⟨by omega, by omega⟩ ?_
  refine sx_callVi lk_L_162 cl_12 s_224 (by decide) dL_law_1186 (vs := [_]) rfl rfl (Nat.le_of_ble_eq_true rfl) (Nat.le_of_ble_eq_true rfl) rfl (f_X12_law _ Ph2.2.1 _ Ph2.2.2.1 Mh2) (fun z3 h4 ph4 => ?_)
  refine sx_icmp_eq (tgt := 1553) dL_law_1189 (by decide) (fun c5 => ?_) (fun c5 => ?_)
  ·
    exact kk _
  ·
    exact absurd (ph2.2.trans ph4.2.2.2.symm) c5
set_option maxRecDepth 20000 in
set_option maxHeartbeats 4000000 in
theorem t_L_36 {G : sw_G} {d : Nat} {L : Nat} {xs : Nat → Int32} {i : Int} {h : sw_H} {Q : Option sw_V → sw_H → Prop} (hs : SC G L xs) (hP : PP h) (Fh : FC h) (Mh : FM h) (hi : 0 ≤ i ∧ i + 6 ≤ (L : Int)) (kk : ∀ h1, sw_E G NH SH (d + 158) mL 1553 [some (sw_r 100008), some (sw_r 0), some (sw_r 224), some (sw_i i)] [] h1 Q) : sw_E G NH SH (d + 158) mL 1194 [some (sw_r 100008), some (sw_r 0), some (sw_r 224), some (sw_i i)] [] h Q := by
  have hL := hs.2.2
  refine sx_aload_n dL_law_1194 rfl ?_
  refine sx_aload_n dL_law_1195 rfl ?_
  refine sx_iload_n dL_law_1196 rfl ?_
  refine sx_iconst dL_law_1197 ⟨by decide, by decide⟩ ?_
  refine sx_iadd dL_law_1198 ?_
  refine sy_topw (by omega) ?_
  refine sx_scld hs dL_law_1199 ⟨by omega, by omega⟩ ?_
  refine sx_aload_n dL_law_1200 rfl ?_
  refine sx_iload_n dL_law_1201 rfl ?_
  refine sx_iconst dL_law_1202 ⟨by decide, by decide⟩ ?_
  refine sx_iadd dL_law_1203 ?_
  refine sy_topw (by omega) ?_
  refine sx_scld hs dL_law_1204 ⟨by omega, by omega⟩ ?_
  refine sx_callVi lk_L_163 cl_11 s_0 (by decide) dL_law_1205 (vs := [_, _]) rfl rfl (Nat.le_of_ble_eq_true rfl) (Nat.le_of_ble_eq_true rfl) rfl (f_X11_odds _ hP.1 _ _ Fh) (fun z1 h2 ph2 => ?_)
  have Ph2 : PP h2 := PP_1 ph2.1 hP
  have Mh2 : FM h2 := FM_of (fun a k q => ph2.1.2 a k (by simp [pr1, q])) Mh
  refine sx_aload_n dL_law_1208 rfl ?_
  refine sx_aload_n dL_law_1209 rfl ?_
  refine sx_iload_n dL_law_1210 rfl ?_
  refine sx_iconst dL_law_1211 ⟨by decide, by decide⟩ ?_
  refine sx_iadd dL_law_1212 ?_
  refine sy_topw (by omega) ?_
  refine sx_scld hs dL_law_1213 ⟨by omega, by omega⟩ ?_
  refine sx_aload_n dL_law_1214 rfl ?_
  refine sx_iload_n dL_law_1215 rfl ?_
  refine sx_iconst dL_law_1216 ⟨by decide, by decide⟩ ?_
  refine sx_iadd dL_law_1217 ?_
  refine sy_topw (by omega) ?_
  refine sx_scld hs dL_law_1218 ⟨by omega, by omega⟩ ?_
  refine sx_callVi lk_L_166 cl_12 s_224 (by decide) dL_law_1219 (vs := [_, _]) rfl rfl (Nat.le_of_ble_eq_true rfl) (Nat.le_of_ble_eq_true rfl) rfl (f_X12_odds _ Ph2.2.1 _ _ Ph2.2.2.1 Mh2) (fun z3 h4 ph4 => ?_)
  refine sx_icmp_eq (tgt := 1553) dL_law_1222 (by decide) (fun c5 => ?_) (fun c5 => ?_)
  ·
    exact kk _
  ·
    exact absurd (ph2.2.trans ph4.2.symm) c5
set_option maxRecDepth 20000 in
set_option maxHeartbeats 4000000 in
theorem t_L_37 {G : sw_G} {d : Nat} {L : Nat} {xs : Nat → Int32} {i : Int} {h : sw_H} {Q : Option sw_V → sw_H → Prop} (hs : SC G L xs) (hP : PP h) (Fh : FC h) (Mh : FM h) (hi : 0 ≤ i ∧ i + 6 ≤ (L : Int)) (kk : ∀ h1, sw_E G NH SH (d + 158) mL 1553 [some (sw_r 100008), some (sw_r 0), some (sw_r 224), some (sw_i i)] [] h1 Q) : sw_E G NH SH (d + 158) mL 1227 [some (sw_r 100008), some (sw_r 0), some (sw_r 224), some (sw_i i)] [] h Q := by
  have hL := hs.2.2
  refine sx_aload_n dL_law_1227 rfl ?_
  refine sx_aload_n dL_law_1228 rfl ?_
  refine sx_iload_n dL_law_1229 rfl ?_
  refine sx_iconst dL_law_1230 ⟨by decide, by decide⟩ ?_
  refine sx_iadd dL_law_1231 ?_
  refine sy_topw (by omega) ?_
  refine sx_scld hs dL_law_1232 ⟨by omega, by omega⟩ ?_
  refine sx_callVi lk_L_167 cl_11 s_0 (by decide) dL_law_1233 (vs := [_]) rfl rfl (Nat.le_of_ble_eq_true rfl) (Nat.le_of_ble_eq_true rfl) rfl (f_X11_lies _ hP.1 _ Fh) (fun z1 h2 ph2 => ?_)
  have Ph2 : PP h2 := PP_1 ph2.1 hP
  have Mh2 : FM h2 := FM_of (fun a k q => ph2.1.2 a k (by simp [pr1, q])) Mh
  refine sx_aload_n dL_law_1236 rfl ?_
  refine sx_aload_n dL_law_1237 rfl ?_
  refine sx_iload_n dL_law_1238 rfl ?_
  refine sx_iconst dL_law_1239 ⟨by decide, by decide⟩ ?_
  refine sx_iadd dL_law_1240 ?_
  refine sy_topw (by omega) ?_
  refine sx_scld hs dL_law_1241 ⟨by omega, by omega⟩ ?_
  refine sx_callVi lk_L_170 cl_12 s_224 (by decide) dL_law_1242 (vs := [_]) rfl rfl (Nat.le_of_ble_eq_true rfl) (Nat.le_of_ble_eq_true rfl) rfl (f_X12_lies _ Ph2.2.1 _ Ph2.2.2.1 Mh2) (fun z3 h4 ph4 => ?_)
  refine sx_icmp_eq (tgt := 1553) dL_law_1245 (by decide) (fun c5 => ?_) (fun c5 => ?_)
  ·
    exact kk _
  ·
    exact absurd (ph2.2.trans ph4.2.symm) c5
set_option maxRecDepth 20000 in
set_option maxHeartbeats 4000000 in
theorem t_L_38 {G : sw_G} {d : Nat} {L : Nat} {xs : Nat → Int32} {i : Int} {h : sw_H} {Q : Option sw_V → sw_H → Prop} (hs : SC G L xs) (hP : PP h) (Fh : FC h) (Mh : FM h) (hi : 0 ≤ i ∧ i + 6 ≤ (L : Int)) (kk : ∀ h1, sw_E G NH SH (d + 158) mL 1553 [some (sw_r 100008), some (sw_r 0), some (sw_r 224), some (sw_i i)] [] h1 Q) : sw_E G NH SH (d + 158) mL 1250 [some (sw_r 100008), some (sw_r 0), some (sw_r 224), some (sw_i i)] [] h Q := by
  have hL := hs.2.2
  refine sx_aload_n dL_law_1250 rfl ?_
  refine sx_aload_n dL_law_1251 rfl ?_
  refine sx_iload_n dL_law_1252 rfl ?_
  refine sx_iconst dL_law_1253 ⟨by decide, by decide⟩ ?_
  refine sx_iadd dL_law_1254 ?_
  refine sy_topw (by omega) ?_
  refine sx_scld hs dL_law_1255 ⟨by omega, by omega⟩ ?_
  refine sx_aload_n dL_law_1256 rfl ?_
  refine sx_iload_n dL_law_1257 rfl ?_
  refine sx_iconst dL_law_1258 ⟨by decide, by decide⟩ ?_
  refine sx_iadd dL_law_1259 ?_
  refine sy_topw (by omega) ?_
  refine sx_scld hs dL_law_1260 ⟨by omega, by omega⟩ ?_
  refine sx_aload_n dL_law_1261 rfl ?_
  refine sx_iload_n dL_law_1262 rfl ?_
  refine sx_iconst dL_law_1263 ⟨by decide, by decide⟩ ?_
  refine sx_iadd dL_law_1264 ?_
  refine sy_topw (by omega) ?_
  refine sx_scld hs dL_law_1265 ⟨by omega, by omega⟩ ?_
  refine sx_aload_n dL_law_1266 rfl ?_
  refine sx_iload_n dL_law_1267 rfl ?_
  refine sx_iconst dL_law_1268 ⟨by decide, by decide⟩ ?_
  refine sx_iadd dL_law_1269 ?_
  refine sy_topw (by omega) ?_
  refine sx_scld hs dL_law_1270 ⟨by omega, by omega⟩ ?_
  refine sx_aload_n dL_law_1271 rfl ?_
  refine sx_iload_n dL_law_1272 rfl ?_
  refine sx_iconst dL_law_1273 ⟨by decide, by decide⟩ ?_
  refine sx_iadd dL_law_1274 ?_
  refine sy_topw (by omega) ?_
  refine sx_scld hs dL_law_1275 ⟨by omega, by omega⟩ ?_
  refine sx_if_eq (tgt := 1283) dL_law_1276 (by decide) (fun c1 => ?_) (fun c1 => ?_)
  ·
    refine sx_iconst dL_law_1283 ⟨by decide, by decide⟩ ?_
    refine sx_callVi lk_L_171 cl_11 s_0 (by decide) dL_law_1284 (vs := [_, _, _, _, _]) rfl rfl (Nat.le_of_ble_eq_true rfl) (Nat.le_of_ble_eq_true rfl) rfl (f_X11_seen _ hP.1 _ _ _ _ _ (by omega) Fh) (fun z2 h3 ph3 => ?_)
    have Ph3 : PP h3 := PP_1 ph3.1 hP
    have Mh3 : FM h3 := FM_of (fun a k q => ph3.1.2 a k (by simp [pr1, q])) Mh
    refine sx_aload_n dL_law_1287 rfl ?_
    refine sx_aload_n dL_law_1288 rfl ?_
    refine sx_iload_n dL_law_1289 rfl ?_
    refine sx_iconst dL_law_1290 ⟨by decide, by decide⟩ ?_
    refine sx_iadd dL_law_1291 ?_
    refine sy_topw (by omega) ?_
    refine sx_scld hs dL_law_1292 ⟨by omega, by omega⟩ ?_
    refine sx_aload_n dL_law_1293 rfl ?_
    refine sx_iload_n dL_law_1294 rfl ?_
    refine sx_iconst dL_law_1295 ⟨by decide, by decide⟩ ?_
    refine sx_iadd dL_law_1296 ?_
    refine sy_topw (by omega) ?_
    refine sx_scld hs dL_law_1297 ⟨by omega, by omega⟩ ?_
    refine sx_aload_n dL_law_1298 rfl ?_
    refine sx_iload_n dL_law_1299 rfl ?_
    refine sx_iconst dL_law_1300 ⟨by decide, by decide⟩ ?_
    refine sx_iadd dL_law_1301 ?_
    refine sy_topw (by omega) ?_
    refine sx_scld hs dL_law_1302 ⟨by omega, by omega⟩ ?_
    refine sx_aload_n dL_law_1303 rfl ?_
    refine sx_iload_n dL_law_1304 rfl ?_
    refine sx_iconst dL_law_1305 ⟨by decide, by decide⟩ ?_
    refine sx_iadd dL_law_1306 ?_
    refine sy_topw (by omega) ?_
    refine sx_scld hs dL_law_1307 ⟨by omega, by omega⟩ ?_
    refine sx_aload_n dL_law_1308 rfl ?_
    refine sx_iload_n dL_law_1309 rfl ?_
    refine sx_iconst dL_law_1310 ⟨by decide, by decide⟩ ?_
    refine sx_iadd dL_law_1311 ?_
    refine sy_topw (by omega) ?_
    refine sx_scld hs dL_law_1312 ⟨by omega, by omega⟩ ?_
    refine sx_if_eq (tgt := 1320) dL_law_1313 (by decide) (fun c4 => ?_) (fun c4 => ?_)
    ·
      refine sx_iconst dL_law_1320 ⟨by decide, by decide⟩ ?_
      refine sx_callVi lk_L_175 cl_12 s_224 (by decide) dL_law_1321 (vs := [_, _, _, _, _]) rfl rfl (Nat.le_of_ble_eq_true rfl) (Nat.le_of_ble_eq_true rfl) rfl (f_X12_seen _ Ph3.2.1 _ _ _ _ _ Ph3.2.2.1 Mh3) (fun z5 h6 ph6 => ?_)
      refine sx_icmp_eq (tgt := 1553) dL_law_1324 (by decide) (fun c7 => ?_) (fun c7 => ?_)
      ·
        exact kk _
      ·
        exact absurd (ph3.2.trans ph6.2.2.2.symm) c7
    ·
      refine sx_iconst dL_law_1316 ⟨by decide, by decide⟩ ?_
      refine sx_goto (tgt := 1321) dL_law_1317 (by decide) ?_
      refine sx_callVi lk_L_175 cl_12 s_224 (by decide) dL_law_1321 (vs := [_, _, _, _, _]) rfl rfl (Nat.le_of_ble_eq_true rfl) (Nat.le_of_ble_eq_true rfl) rfl (f_X12_seen _ Ph3.2.1 _ _ _ _ _ Ph3.2.2.1 Mh3) (fun z8 h9 ph9 => ?_)
      refine sx_icmp_eq (tgt := 1553) dL_law_1324 (by decide) (fun c10 => ?_) (fun c10 => ?_)
      ·
        exact kk _
      ·
        exact absurd (ph3.2.trans ph9.2.2.2.symm) c10
  ·
    refine sx_iconst dL_law_1279 ⟨by decide, by decide⟩ ?_
    refine sx_goto (tgt := 1284) dL_law_1280 (by decide) ?_
    refine sx_callVi lk_L_171 cl_11 s_0 (by decide) dL_law_1284 (vs := [_, _, _, _, _]) rfl rfl (Nat.le_of_ble_eq_true rfl) (Nat.le_of_ble_eq_true rfl) rfl (f_X11_seen _ hP.1 _ _ _ _ _ (by omega) Fh) (fun z11 h12 ph12 => ?_)
    have Ph12 : PP h12 := PP_1 ph12.1 hP
    have Mh12 : FM h12 := FM_of (fun a k q => ph12.1.2 a k (by simp [pr1, q])) Mh
    refine sx_aload_n dL_law_1287 rfl ?_
    refine sx_aload_n dL_law_1288 rfl ?_
    refine sx_iload_n dL_law_1289 rfl ?_
    refine sx_iconst dL_law_1290 ⟨by decide, by decide⟩ ?_
    refine sx_iadd dL_law_1291 ?_
    refine sy_topw (by omega) ?_
    refine sx_scld hs dL_law_1292 ⟨by omega, by omega⟩ ?_
    refine sx_aload_n dL_law_1293 rfl ?_
    refine sx_iload_n dL_law_1294 rfl ?_
    refine sx_iconst dL_law_1295 ⟨by decide, by decide⟩ ?_
    refine sx_iadd dL_law_1296 ?_
    refine sy_topw (by omega) ?_
    refine sx_scld hs dL_law_1297 ⟨by omega, by omega⟩ ?_
    refine sx_aload_n dL_law_1298 rfl ?_
    refine sx_iload_n dL_law_1299 rfl ?_
    refine sx_iconst dL_law_1300 ⟨by decide, by decide⟩ ?_
    refine sx_iadd dL_law_1301 ?_
    refine sy_topw (by omega) ?_
    refine sx_scld hs dL_law_1302 ⟨by omega, by omega⟩ ?_
    refine sx_aload_n dL_law_1303 rfl ?_
    refine sx_iload_n dL_law_1304 rfl ?_
    refine sx_iconst dL_law_1305 ⟨by decide, by decide⟩ ?_
    refine sx_iadd dL_law_1306 ?_
    refine sy_topw (by omega) ?_
    refine sx_scld hs dL_law_1307 ⟨by omega, by omega⟩ ?_
    refine sx_aload_n dL_law_1308 rfl ?_
    refine sx_iload_n dL_law_1309 rfl ?_
    refine sx_iconst dL_law_1310 ⟨by decide, by decide⟩ ?_
    refine sx_iadd dL_law_1311 ?_
    refine sy_topw (by omega) ?_
    refine sx_scld hs dL_law_1312 ⟨by omega, by omega⟩ ?_
    refine sx_if_eq (tgt := 1320) dL_law_1313 (by decide) (fun c13 => ?_) (fun c13 => ?_)
    ·
      refine sx_iconst dL_law_1320 ⟨by decide, by decide⟩ ?_
      refine sx_callVi lk_L_175 cl_12 s_224 (by decide) dL_law_1321 (vs := [_, _, _, _, _]) rfl rfl (Nat.le_of_ble_eq_true rfl) (Nat.le_of_ble_eq_true rfl) rfl (f_X12_seen _ Ph12.2.1 _ _ _ _ _ Ph12.2.2.1 Mh12) (fun z14 h15 ph15 => ?_)
      refine sx_icmp_eq (tgt := 1553) dL_law_1324 (by decide) (fun c16 => ?_) (fun c16 => ?_)
      ·
        exact kk _
      ·
        exact absurd (ph12.2.trans ph15.2.2.2.symm) c16
    ·
      refine sx_iconst dL_law_1316 ⟨by decide, by decide⟩ ?_
      refine sx_goto (tgt := 1321) dL_law_1317 (by decide) ?_
      refine sx_callVi lk_L_175 cl_12 s_224 (by decide) dL_law_1321 (vs := [_, _, _, _, _]) rfl rfl (Nat.le_of_ble_eq_true rfl) (Nat.le_of_ble_eq_true rfl) rfl (f_X12_seen _ Ph12.2.1 _ _ _ _ _ Ph12.2.2.1 Mh12) (fun z17 h18 ph18 => ?_)
      refine sx_icmp_eq (tgt := 1553) dL_law_1324 (by decide) (fun c19 => ?_) (fun c19 => ?_)
      ·
        exact kk _
      ·
        exact absurd (ph12.2.trans ph18.2.2.2.symm) c19
set_option maxRecDepth 20000 in
set_option maxHeartbeats 4000000 in
theorem t_L_39 {G : sw_G} {d : Nat} {L : Nat} {xs : Nat → Int32} {i : Int} {h : sw_H} {Q : Option sw_V → sw_H → Prop} (hs : SC G L xs) (hP : PP h) (Fh : FC h) (Mh : FM h) (hi : 0 ≤ i ∧ i + 6 ≤ (L : Int)) (kk : ∀ h1, sw_E G NH SH (d + 158) mL 1553 [some (sw_r 100008), some (sw_r 0), some (sw_r 224), some (sw_i i)] [] h1 Q) : sw_E G NH SH (d + 158) mL 1329 [some (sw_r 100008), some (sw_r 0), some (sw_r 224), some (sw_i i)] [] h Q := by
  have hL := hs.2.2
  refine sx_aload_n dL_law_1329 rfl ?_
  refine sx_aload_n dL_law_1330 rfl ?_
  refine sx_iload_n dL_law_1331 rfl ?_
  refine sx_iconst dL_law_1332 ⟨by decide, by decide⟩ ?_
  refine sx_iadd dL_law_1333 ?_
  refine sy_topw (by omega) ?_
  refine sx_scld hs dL_law_1334 ⟨by omega, by omega⟩ ?_
  refine sx_callVz lk_L_176 cl_11 s_0 (by decide) dL_law_1335 (vs := [_]) rfl rfl (Nat.le_of_ble_eq_true rfl) (Nat.le_of_ble_eq_true rfl) rfl (f_X11_untell _ hP.1 _ Fh) (fun z1 h2 zz1 ph2 => ?_)
  have Ph2 : PP h2 := PP_1 ph2.1 hP
  have Mh2 : FM h2 := FM_of (fun a k q => ph2.1.2 a k (by simp [pr1, q])) Mh
  refine sx_aload_n dL_law_1338 rfl ?_
  refine sx_aload_n dL_law_1339 rfl ?_
  refine sx_iload_n dL_law_1340 rfl ?_
  refine sx_iconst dL_law_1341 ⟨by decide, by decide⟩ ?_
  refine sx_iadd dL_law_1342 ?_
  refine sy_topw (by omega) ?_
  refine sx_scld hs dL_law_1343 ⟨by omega, by omega⟩ ?_
  refine sx_callVz lk_L_180 cl_12 s_224 (by decide) dL_law_1344 (vs := [_]) rfl rfl (Nat.le_of_ble_eq_true rfl) (Nat.le_of_ble_eq_true rfl) rfl (f_X12_untell _ Ph2.2.1 _ Ph2.2.2.1 Mh2) (fun z3 h4 zz3 ph4 => ?_)
  refine sx_icmp_eq (tgt := 1553) dL_law_1347 (by decide) (fun c5 => ?_) (fun c5 => ?_)
  ·
    exact kk _
  ·
    exact absurd (ph2.2.trans ph4.2.2.2.symm) c5
set_option maxRecDepth 20000 in
set_option maxHeartbeats 4000000 in
theorem t_L_40 {G : sw_G} {d : Nat} {L : Nat} {xs : Nat → Int32} {i : Int} {h : sw_H} {Q : Option sw_V → sw_H → Prop} (hs : SC G L xs) (hP : PP h) (Fh : FC h) (Mh : FM h) (hi : 0 ≤ i ∧ i + 6 ≤ (L : Int)) (kk : ∀ h1, sw_E G NH SH (d + 158) mL 1553 [some (sw_r 100008), some (sw_r 0), some (sw_r 224), some (sw_i i)] [] h1 Q) : sw_E G NH SH (d + 158) mL 1352 [some (sw_r 100008), some (sw_r 0), some (sw_r 224), some (sw_i i)] [] h Q := by
  have hL := hs.2.2
  refine sx_aload_n dL_law_1352 rfl ?_
  refine sx_aload_n dL_law_1353 rfl ?_
  refine sx_iload_n dL_law_1354 rfl ?_
  refine sx_iconst dL_law_1355 ⟨by decide, by decide⟩ ?_
  refine sx_iadd dL_law_1356 ?_
  refine sy_topw (by omega) ?_
  refine sx_scld hs dL_law_1357 ⟨by omega, by omega⟩ ?_
  refine sx_callVi lk_L_181 cl_11 s_0 (by decide) dL_law_1358 (vs := [_]) rfl rfl (Nat.le_of_ble_eq_true rfl) (Nat.le_of_ble_eq_true rfl) rfl (c_X11_later _ hP.1 _) (fun z1 h2 ph2 => ?_)
  have Ph2_m : mI h2 ∧ mB h2 := later_m hP ph2.1
  refine sx_aload_n dL_law_1361 rfl ?_
  refine sx_aload_n dL_law_1362 rfl ?_
  refine sx_iload_n dL_law_1363 rfl ?_
  refine sx_iconst dL_law_1364 ⟨by decide, by decide⟩ ?_
  refine sx_iadd dL_law_1365 ?_
  refine sy_topw (by omega) ?_
  refine sx_scld hs dL_law_1366 ⟨by omega, by omega⟩ ?_
  refine sx_callVi lk_L_184 cl_12 s_224 (by decide) dL_law_1367 (vs := [_]) rfl rfl (Nat.le_of_ble_eq_true rfl) (Nat.le_of_ble_eq_true rfl) rfl (c_X12_later _ Ph2_m.1 _ Ph2_m.2) (fun z3 h4 ph4 => ?_)
  have T := lt_same hP.2.2.2 ph2.2 (ph2.1.2 224 100 rfl) (ph4.1.2 0 12 rfl) ph4.2.2
  refine sx_icmp_eq (tgt := 1553) dL_law_1370 (by decide) (fun c5 => ?_) (fun c5 => ?_)
  ·
    exact kk _
  ·
    exact absurd T.1 c5
set_option maxRecDepth 20000 in
set_option maxHeartbeats 4000000 in
theorem t_L_41 {G : sw_G} {d : Nat} {L : Nat} {xs : Nat → Int32} {i : Int} {h : sw_H} {Q : Option sw_V → sw_H → Prop} (hs : SC G L xs) (hP : PP h) (Fh : FC h) (Mh : FM h) (hi : 0 ≤ i ∧ i + 6 ≤ (L : Int)) (kk : ∀ h1, sw_E G NH SH (d + 158) mL 1553 [some (sw_r 100008), some (sw_r 0), some (sw_r 224), some (sw_i i)] [] h1 Q) : sw_E G NH SH (d + 158) mL 1375 [some (sw_r 100008), some (sw_r 0), some (sw_r 224), some (sw_i i)] [] h Q := by
  have hL := hs.2.2
  refine sx_aload_n dL_law_1375 rfl ?_
  refine sx_aload_n dL_law_1376 rfl ?_
  refine sx_iload_n dL_law_1377 rfl ?_
  refine sx_iconst dL_law_1378 ⟨by decide, by decide⟩ ?_
  refine sx_iadd dL_law_1379 ?_
  refine sy_topw (by omega) ?_
  refine sx_scld hs dL_law_1380 ⟨by omega, by omega⟩ ?_
  refine sx_callVi lk_L_185 cl_11 s_0 (by decide) dL_law_1381 (vs := [_]) rfl rfl (Nat.le_of_ble_eq_true rfl) (Nat.le_of_ble_eq_true rfl) rfl (f_X11_fits _ hP.1 _ Fh) (fun z1 h2 ph2 => ?_)
  have Ph2 : PP h2 := PP_1 ph2.1 hP
  have Mh2 : FM h2 := FM_of (fun a k q => ph2.1.2 a k (by simp [pr1, q])) Mh
  refine sx_aload_n dL_law_1384 rfl ?_
  refine sx_aload_n dL_law_1385 rfl ?_
  refine sx_iload_n dL_law_1386 rfl ?_
  refine sx_iconst dL_law_1387 ⟨by decide, by decide⟩ ?_
  refine sx_iadd dL_law_1388 ?_
  refine sy_topw (by omega) ?_
  refine sx_scld hs dL_law_1389 ⟨by omega, by omega⟩ ?_
  refine sx_callVi lk_L_188 cl_12 s_224 (by decide) dL_law_1390 (vs := [_]) rfl rfl (Nat.le_of_ble_eq_true rfl) (Nat.le_of_ble_eq_true rfl) rfl (f_X12_fits _ Ph2.2.1 _ Ph2.2.2.1 Mh2) (fun z3 h4 ph4 => ?_)
  refine sx_icmp_eq (tgt := 1553) dL_law_1393 (by decide) (fun c5 => ?_) (fun c5 => ?_)
  ·
    exact kk _
  ·
    exact absurd (ph2.2.trans ph4.2.2.2.symm) c5
set_option maxRecDepth 20000 in
set_option maxHeartbeats 4000000 in
theorem t_L_42 {G : sw_G} {d : Nat} {L : Nat} {xs : Nat → Int32} {i : Int} {h : sw_H} {Q : Option sw_V → sw_H → Prop} (hs : SC G L xs) (hP : PP h) (Fh : FC h) (Mh : FM h) (hi : 0 ≤ i ∧ i + 6 ≤ (L : Int)) (kk : ∀ h1, sw_E G NH SH (d + 158) mL 1553 [some (sw_r 100008), some (sw_r 0), some (sw_r 224), some (sw_i i)] [] h1 Q) : sw_E G NH SH (d + 158) mL 1398 [some (sw_r 100008), some (sw_r 0), some (sw_r 224), some (sw_i i)] [] h Q := by
  have hL := hs.2.2
  refine sx_aload_n dL_law_1398 rfl ?_
  refine sx_aload_n dL_law_1399 rfl ?_
  refine sx_iload_n dL_law_1400 rfl ?_
  refine sx_iconst dL_law_1401 ⟨by decide, by decide⟩ ?_
  refine sx_iadd dL_law_1402 ?_
  refine sy_topw (by omega) ?_
  refine sx_scld hs dL_law_1403 ⟨by omega, by omega⟩ ?_
  refine sx_aload_n dL_law_1404 rfl ?_
  refine sx_iload_n dL_law_1405 rfl ?_
  refine sx_iconst dL_law_1406 ⟨by decide, by decide⟩ ?_
  refine sx_iadd dL_law_1407 ?_
  refine sy_topw (by omega) ?_
  refine sx_scld hs dL_law_1408 ⟨by omega, by omega⟩ ?_
  refine sx_callVi lk_L_189 cl_11 s_0 (by decide) dL_law_1409 (vs := [_, _]) rfl rfl (Nat.le_of_ble_eq_true rfl) (Nat.le_of_ble_eq_true rfl) rfl (f_X11_fit _ hP.1 _ _ Fh) (fun z1 h2 ph2 => ?_)
  have Ph2 : PP h2 := PP_1 ph2.1 hP
  have Mh2 : FM h2 := FM_of (fun a k q => ph2.1.2 a k (by simp [pr1, q])) Mh
  refine sx_aload_n dL_law_1412 rfl ?_
  refine sx_aload_n dL_law_1413 rfl ?_
  refine sx_iload_n dL_law_1414 rfl ?_
  refine sx_iconst dL_law_1415 ⟨by decide, by decide⟩ ?_
  refine sx_iadd dL_law_1416 ?_
  refine sy_topw (by omega) ?_
  refine sx_scld hs dL_law_1417 ⟨by omega, by omega⟩ ?_
  refine sx_aload_n dL_law_1418 rfl ?_
  refine sx_iload_n dL_law_1419 rfl ?_
  refine sx_iconst dL_law_1420 ⟨by decide, by decide⟩ ?_
  refine sx_iadd dL_law_1421 ?_
  refine sy_topw (by omega) ?_
  refine sx_scld hs dL_law_1422 ⟨by omega, by omega⟩ ?_
  refine sx_callVi lk_L_192 cl_12 s_224 (by decide) dL_law_1423 (vs := [_, _]) rfl rfl (Nat.le_of_ble_eq_true rfl) (Nat.le_of_ble_eq_true rfl) rfl (f_X12_fit _ Ph2.2.1 _ _ Ph2.2.2.1 Mh2) (fun z3 h4 ph4 => ?_)
  refine sx_icmp_eq (tgt := 1553) dL_law_1426 (by decide) (fun c5 => ?_) (fun c5 => ?_)
  ·
    exact kk _
  ·
    exact absurd (ph2.2.trans ph4.2.2.2.symm) c5
set_option maxRecDepth 20000 in
set_option maxHeartbeats 4000000 in
theorem t_L_43 {G : sw_G} {d : Nat} {L : Nat} {xs : Nat → Int32} {i : Int} {h : sw_H} {Q : Option sw_V → sw_H → Prop} (hs : SC G L xs) (hP : PP h) (Fh : FC h) (Mh : FM h) (hi : 0 ≤ i ∧ i + 6 ≤ (L : Int)) (kk : ∀ h1, sw_E G NH SH (d + 158) mL 1553 [some (sw_r 100008), some (sw_r 0), some (sw_r 224), some (sw_i i)] [] h1 Q) : sw_E G NH SH (d + 158) mL 1431 [some (sw_r 100008), some (sw_r 0), some (sw_r 224), some (sw_i i)] [] h Q := by
  have hL := hs.2.2
  refine sx_aload_n dL_law_1431 rfl ?_
  refine sx_aload_n dL_law_1432 rfl ?_
  refine sx_iload_n dL_law_1433 rfl ?_
  refine sx_iconst dL_law_1434 ⟨by decide, by decide⟩ ?_
  refine sx_iadd dL_law_1435 ?_
  refine sy_topw (by omega) ?_
  refine sx_scld hs dL_law_1436 ⟨by omega, by omega⟩ ?_
  refine sx_aload_n dL_law_1437 rfl ?_
  refine sx_iload_n dL_law_1438 rfl ?_
  refine sx_iconst dL_law_1439 ⟨by decide, by decide⟩ ?_
  refine sx_iadd dL_law_1440 ?_
  refine sy_topw (by omega) ?_
  refine sx_scld hs dL_law_1441 ⟨by omega, by omega⟩ ?_
  refine sx_aload_n dL_law_1442 rfl ?_
  refine sx_iload_n dL_law_1443 rfl ?_
  refine sx_iconst dL_law_1444 ⟨by decide, by decide⟩ ?_
  refine sx_iadd dL_law_1445 ?_
  refine sy_topw (by omega) ?_
  refine sx_scld hs dL_law_1446 ⟨by omega, by omega⟩ ?_
  refine sx_aload_n dL_law_1447 rfl ?_
  refine sx_iload_n dL_law_1448 rfl ?_
  refine sx_iconst dL_law_1449 ⟨by decide, by decide⟩ ?_
  refine sx_iadd dL_law_1450 ?_
  refine sy_topw (by omega) ?_
  refine sx_scld hs dL_law_1451 ⟨by omega, by omega⟩ ?_
  refine sx_callVi lk_L_193 cl_11 s_0 (by decide) dL_law_1452 (vs := [_, _, _, _]) rfl rfl (Nat.le_of_ble_eq_true rfl) (Nat.le_of_ble_eq_true rfl) rfl (f_X11_ask _ hP.1 _ _ _ _ Fh) (fun z1 h2 ph2 => ?_)
  have Ph2 : PP h2 := PP_1 ph2.1 hP
  have Mh2 : FM h2 := FM_of (fun a k q => ph2.1.2 a k (by simp [pr1, q])) Mh
  refine sx_aload_n dL_law_1455 rfl ?_
  refine sx_aload_n dL_law_1456 rfl ?_
  refine sx_iload_n dL_law_1457 rfl ?_
  refine sx_iconst dL_law_1458 ⟨by decide, by decide⟩ ?_
  refine sx_iadd dL_law_1459 ?_
  refine sy_topw (by omega) ?_
  refine sx_scld hs dL_law_1460 ⟨by omega, by omega⟩ ?_
  refine sx_aload_n dL_law_1461 rfl ?_
  refine sx_iload_n dL_law_1462 rfl ?_
  refine sx_iconst dL_law_1463 ⟨by decide, by decide⟩ ?_
  refine sx_iadd dL_law_1464 ?_
  refine sy_topw (by omega) ?_
  refine sx_scld hs dL_law_1465 ⟨by omega, by omega⟩ ?_
  refine sx_aload_n dL_law_1466 rfl ?_
  refine sx_iload_n dL_law_1467 rfl ?_
  refine sx_iconst dL_law_1468 ⟨by decide, by decide⟩ ?_
  refine sx_iadd dL_law_1469 ?_
  refine sy_topw (by omega) ?_
  refine sx_scld hs dL_law_1470 ⟨by omega, by omega⟩ ?_
  refine sx_aload_n dL_law_1471 rfl ?_
  refine sx_iload_n dL_law_1472 rfl ?_
  refine sx_iconst dL_law_1473 ⟨by decide, by decide⟩ ?_
  refine sx_iadd dL_law_1474 ?_
  refine sy_topw (by omega) ?_
  refine sx_scld hs dL_law_1475 ⟨by omega, by omega⟩ ?_
  refine sx_callVi lk_L_197 cl_12 s_224 (by decide) dL_law_1476 (vs := [_, _, _, _]) rfl rfl (Nat.le_of_ble_eq_true rfl) (Nat.le_of_ble_eq_true rfl) rfl (f_X12_ask _ Ph2.2.1 _ _ _ _ Ph2.2.2.1 Mh2) (fun z3 h4 ph4 => ?_)
  refine sx_icmp_eq (tgt := 1553) dL_law_1479 (by decide) (fun c5 => ?_) (fun c5 => ?_)
  ·
    exact kk _
  ·
    exact absurd (ph2.2.trans ph4.2.2.2.symm) c5
set_option maxRecDepth 20000 in
set_option maxHeartbeats 4000000 in
theorem t_L_44 {G : sw_G} {d : Nat} {L : Nat} {xs : Nat → Int32} {i : Int} {h : sw_H} {Q : Option sw_V → sw_H → Prop} (hs : SC G L xs) (hP : PP h) (Fh : FC h) (Mh : FM h) (hi : 0 ≤ i ∧ i + 6 ≤ (L : Int)) (kk : ∀ h1, sw_E G NH SH (d + 158) mL 1553 [some (sw_r 100008), some (sw_r 0), some (sw_r 224), some (sw_i i)] [] h1 Q) : sw_E G NH SH (d + 158) mL 1484 [some (sw_r 100008), some (sw_r 0), some (sw_r 224), some (sw_i i)] [] h Q := by
  have hL := hs.2.2
  refine sx_aload_n dL_law_1484 rfl ?_
  refine sx_aload_n dL_law_1485 rfl ?_
  refine sx_iload_n dL_law_1486 rfl ?_
  refine sx_iconst dL_law_1487 ⟨by decide, by decide⟩ ?_
  refine sx_iadd dL_law_1488 ?_
  refine sy_topw (by omega) ?_
  refine sx_scld hs dL_law_1489 ⟨by omega, by omega⟩ ?_
  refine sx_callVi lk_L_198 cl_11 s_0 (by decide) dL_law_1490 (vs := [_]) rfl rfl (Nat.le_of_ble_eq_true rfl) (Nat.le_of_ble_eq_true rfl) rfl (f_X11_image _ hP.1 _ Fh) (fun z1 h2 ph2 => ?_)
  have Ph2 : PP h2 := PP_1 ph2.1 hP
  have Mh2 : FM h2 := FM_of (fun a k q => ph2.1.2 a k (by simp [pr1, q])) Mh
  refine sx_aload_n dL_law_1493 rfl ?_
  refine sx_aload_n dL_law_1494 rfl ?_
  refine sx_iload_n dL_law_1495 rfl ?_
  refine sx_iconst dL_law_1496 ⟨by decide, by decide⟩ ?_
  refine sx_iadd dL_law_1497 ?_
  refine sy_topw (by omega) ?_
  refine sx_scld hs dL_law_1498 ⟨by omega, by omega⟩ ?_
  refine sx_callVi lk_L_201 cl_12 s_224 (by decide) dL_law_1499 (vs := [_]) rfl rfl (Nat.le_of_ble_eq_true rfl) (Nat.le_of_ble_eq_true rfl) rfl (f_X12_image _ Ph2.2.1 _ Ph2.2.2.1 Mh2) (fun z3 h4 ph4 => ?_)
  refine sx_icmp_eq (tgt := 1553) dL_law_1502 (by decide) (fun c5 => ?_) (fun c5 => ?_)
  ·
    exact kk _
  ·
    exact absurd (ph2.2.trans ph4.2.2.2.symm) c5
set_option maxRecDepth 20000 in
set_option maxHeartbeats 4000000 in
theorem t_L_45 {G : sw_G} {d : Nat} {L : Nat} {xs : Nat → Int32} {i : Int} {h : sw_H} {Q : Option sw_V → sw_H → Prop} (hs : SC G L xs) (hP : PP h) (Fh : FC h) (Mh : FM h) (hi : 0 ≤ i ∧ i + 6 ≤ (L : Int)) (kk : ∀ h1, sw_E G NH SH (d + 158) mL 1553 [some (sw_r 100008), some (sw_r 0), some (sw_r 224), some (sw_i i)] [] h1 Q) : sw_E G NH SH (d + 158) mL 1507 [some (sw_r 100008), some (sw_r 0), some (sw_r 224), some (sw_i i)] [] h Q := by
  have hL := hs.2.2
  refine sx_aload_n dL_law_1507 rfl ?_
  refine sx_aload_n dL_law_1508 rfl ?_
  refine sx_iload_n dL_law_1509 rfl ?_
  refine sx_iconst dL_law_1510 ⟨by decide, by decide⟩ ?_
  refine sx_iadd dL_law_1511 ?_
  refine sy_topw (by omega) ?_
  refine sx_scld hs dL_law_1512 ⟨by omega, by omega⟩ ?_
  refine sx_callVi lk_L_202 cl_11 s_0 (by decide) dL_law_1513 (vs := [_]) rfl rfl (Nat.le_of_ble_eq_true rfl) (Nat.le_of_ble_eq_true rfl) rfl (f_X11_back _ hP.1 _ Fh) (fun z1 h2 ph2 => ?_)
  have Ph2 : PP h2 := PP_1 ph2.1 hP
  have Mh2 : FM h2 := FM_of (fun a k q => ph2.1.2 a k (by simp [pr1, q])) Mh
  refine sx_aload_n dL_law_1516 rfl ?_
  refine sx_aload_n dL_law_1517 rfl ?_
  refine sx_iload_n dL_law_1518 rfl ?_
  refine sx_iconst dL_law_1519 ⟨by decide, by decide⟩ ?_
  refine sx_iadd dL_law_1520 ?_
  refine sy_topw (by omega) ?_
  refine sx_scld hs dL_law_1521 ⟨by omega, by omega⟩ ?_
  refine sx_callVi lk_L_205 cl_12 s_224 (by decide) dL_law_1522 (vs := [_]) rfl rfl (Nat.le_of_ble_eq_true rfl) (Nat.le_of_ble_eq_true rfl) rfl (f_X12_back _ Ph2.2.1 _ Ph2.2.2.1 Mh2) (fun z3 h4 ph4 => ?_)
  refine sx_icmp_eq (tgt := 1553) dL_law_1525 (by decide) (fun c5 => ?_) (fun c5 => ?_)
  ·
    exact kk _
  ·
    exact absurd (ph2.2.trans ph4.2.2.2.symm) c5
set_option maxRecDepth 20000 in
set_option maxHeartbeats 4000000 in
theorem t_L_46 {G : sw_G} {d : Nat} {L : Nat} {xs : Nat → Int32} {i : Int} {h : sw_H} {Q : Option sw_V → sw_H → Prop} (hs : SC G L xs) (hP : PP h) (Fh : FC h) (Mh : FM h) (hi : 0 ≤ i ∧ i + 6 ≤ (L : Int)) (kk : ∀ h1, sw_E G NH SH (d + 158) mL 1553 [some (sw_r 100008), some (sw_r 0), some (sw_r 224), some (sw_i i)] [] h1 Q) : sw_E G NH SH (d + 158) mL 1530 [some (sw_r 100008), some (sw_r 0), some (sw_r 224), some (sw_i i)] [] h Q := by
  have hL := hs.2.2
  refine sx_aload_n dL_law_1530 rfl ?_
  refine sx_aload_n dL_law_1531 rfl ?_
  refine sx_iload_n dL_law_1532 rfl ?_
  refine sx_iconst dL_law_1533 ⟨by decide, by decide⟩ ?_
  refine sx_iadd dL_law_1534 ?_
  refine sy_topw (by omega) ?_
  refine sx_scld hs dL_law_1535 ⟨by omega, by omega⟩ ?_
  refine sx_callVi lk_L_206 cl_11 s_0 (by decide) dL_law_1536 (vs := [_]) rfl rfl (Nat.le_of_ble_eq_true rfl) (Nat.le_of_ble_eq_true rfl) rfl (f_X11_about _ hP.1 _ Fh) (fun z1 h2 ph2 => ?_)
  have Ph2 : PP h2 := PP_1 ph2.1 hP
  have Mh2 : FM h2 := FM_of (fun a k q => ph2.1.2 a k (by simp [pr1, q])) Mh
  refine sx_aload_n dL_law_1539 rfl ?_
  refine sx_aload_n dL_law_1540 rfl ?_
  refine sx_iload_n dL_law_1541 rfl ?_
  refine sx_iconst dL_law_1542 ⟨by decide, by decide⟩ ?_
  refine sx_iadd dL_law_1543 ?_
  refine sy_topw (by omega) ?_
  refine sx_scld hs dL_law_1544 ⟨by omega, by omega⟩ ?_
  refine sx_callVi lk_L_209 cl_12 s_224 (by decide) dL_law_1545 (vs := [_]) rfl rfl (Nat.le_of_ble_eq_true rfl) (Nat.le_of_ble_eq_true rfl) rfl (f_X12_about _ Ph2.2.1 _ Ph2.2.2.1 Mh2) (fun z3 h4 ph4 => ?_)
  refine sx_icmp_eq (tgt := 1553) dL_law_1548 (by decide) (fun c5 => ?_) (fun c5 => ?_)
  ·
    exact kk _
  ·
    exact absurd (ph2.2.trans ph4.2.symm) c5
set_option maxRecDepth 20000 in
set_option maxHeartbeats 4000000 in
theorem e_end {G : sw_G} {d : Nat} {L : Nat} {xs : Nat → Int32} (hs : SC G L xs) (h6 : L ≤ 6) : ∀ h : sw_H, sw_E G NH SH (d + 158) mL 1553 [some (sw_r 100008), some (sw_r 0), some (sw_r 224), some (sw_i 0)] [] h (sw_Qz (fun z h1 => z = 1)) := by
  intro h
  refine sx_iinc dL_law_1553 (by decide) rfl ?_
  rw [sw_w_id (by omega) (by omega)]
  refine sx_goto (tgt := 18) dL_law_1556 (by decide) ?_
  refine sx_iload_n dL_law_18 rfl ?_
  refine sx_aload_n dL_law_19 rfl ?_
  refine sx_scl hs dL_law_20 ?_
  refine sx_bipush dL_law_21 ⟨by decide, by decide, by decide⟩ ?_
  refine sx_isub dL_law_23 ?_
  refine sy_topw (by omega) ?_
  refine sx_icmp_gt (tgt := 1559) dL_law_24 (by decide) (fun c => ?_) (fun c => ?_)
  · refine sx_iconst dL_law_1559 ⟨by decide, by decide⟩ ?_
    refine sx_ireturn dL_law_1560 ?_
    exact ⟨_, rfl, Or.inr rfl, rfl⟩
  · exfalso; omega
set_option maxRecDepth 20000 in
set_option maxHeartbeats 4000000 in
theorem e_one {G : sw_G} {d : Nat} {L : Nat} {xs : Nat → Int32} (hs : SC G L xs) (h6 : L ≤ 6) {h : sw_H} (hP : P1 h) : sw_E G NH SH (d + 158) mL 18 [some (sw_r 100008), some (sw_r 0), some (sw_r 224), some (sw_i 0)] [] h (sw_Qz (fun z h1 => z = 1)) := by
  refine sx_iload_n dL_law_18 rfl ?_
  refine sx_aload_n dL_law_19 rfl ?_
  refine sx_scl hs dL_law_20 ?_
  refine sx_bipush dL_law_21 ⟨by decide, by decide, by decide⟩ ?_
  refine sx_isub dL_law_23 ?_
  refine sy_topw (by omega) ?_
  refine sx_icmp_gt (tgt := 1559) dL_law_24 (by decide) (fun c => ?_) (fun c => ?_)
  · refine sx_iconst dL_law_1559 ⟨by decide, by decide⟩ ?_
    refine sx_ireturn dL_law_1560 ?_
    exact ⟨_, rfl, Or.inr rfl, rfl⟩
  · have hi : 0 ≤ (0 : Int) ∧ (0 : Int) + 6 ≤ (L : Int) := by omega
    have kk : ∀ h1 : sw_H, sw_E G NH SH (d + 158) mL 1553 [some (sw_r 100008), some (sw_r 0), some (sw_r 224), some (sw_i 0)] [] h1 (sw_Qz (fun z h1 => z = 1)) := e_end hs h6
    refine sx_aload_n dL_law_27 rfl ?_
    refine sx_iload_n dL_law_28 rfl ?_
    refine sx_scld hs dL_law_29 ⟨by omega, by omega⟩ ?_
    refine sx_bipush dL_law_30 ⟨by decide, by decide, by decide⟩ ?_
    refine sx_iand dL_law_32 ?_
    exact sx_tsw (dt := 1553) (ts := [236, 299, 322, 335, 358, 391, 434, 457, 480, 503, 516, 539, 552, 565, 578, 601, 624, 687, 720, 753, 786, 819, 852, 875, 908, 941, 974, 997, 1020, 1043, 1066, 1089, 1112, 1125, 1158, 1171, 1194, 1227, 1250, 1329, 1352, 1375, 1398, 1431, 1484, 1507, 1530]) dL_law_33 (by decide) (by decide) (by decide) (fun _ => kk h) (And.intro (fun _ => t_L_0 hs hP.1 hP.2.1 hP.2.2 hi kk) (And.intro (fun _ => t_L_1 hs hP.1 hP.2.1 hP.2.2 hi kk) (And.intro (fun _ => t_L_2 hs hP.1 hP.2.1 hP.2.2 hi kk) (And.intro (fun _ => t_L_3 hs hP.1 hP.2.1 hP.2.2 hi kk) (And.intro (fun _ => t_L_4 hs hP.1 hP.2.1 hP.2.2 hi kk) (And.intro (fun _ => t_L_5 hs hP.1 hP.2.1 hP.2.2 hi kk) (And.intro (fun _ => t_L_6 hs hP.1 hP.2.1 hP.2.2 hi kk) (And.intro (fun _ => t_L_7 hs hP.1 hP.2.1 hP.2.2 hi kk) (And.intro (fun _ => t_L_8 hs hP.1 hP.2.1 hP.2.2 hi kk) (And.intro (fun _ => t_L_9 hs hP.1 hP.2.1 hP.2.2 hi kk) (And.intro (fun _ => t_L_10 hs hP.1 hP.2.1 hP.2.2 hi kk) (And.intro (fun _ => t_L_11 hs hP.1 hP.2.1 hP.2.2 hi kk) (And.intro (fun _ => t_L_12 hs hP.1 hP.2.1 hP.2.2 hi kk) (And.intro (fun _ => t_L_13 hs hP.1 hP.2.1 hP.2.2 hi kk) (And.intro (fun _ => t_L_14 hs hP.1 hP.2.1 hP.2.2 hi kk) (And.intro (fun _ => t_L_15 hs hP.1 hP.2.1 hP.2.2 hi kk) (And.intro (fun _ => t_L_16 hs hP.1 hP.2.1 hP.2.2 hi kk) (And.intro (fun _ => t_L_17 hs hP.1 hP.2.1 hP.2.2 hi kk) (And.intro (fun _ => t_L_18 hs hP.1 hP.2.1 hP.2.2 hi kk) (And.intro (fun _ => t_L_19 hs hP.1 hP.2.1 hP.2.2 hi kk) (And.intro (fun _ => t_L_20 hs hP.1 hP.2.1 hP.2.2 hi kk) (And.intro (fun _ => t_L_21 hs hP.1 hP.2.1 hP.2.2 hi kk) (And.intro (fun _ => t_L_22 hs hP.1 hP.2.1 hP.2.2 hi kk) (And.intro (fun _ => t_L_23 hs hP.1 hP.2.1 hP.2.2 hi kk) (And.intro (fun _ => t_L_24 hs hP.1 hP.2.1 hP.2.2 hi kk) (And.intro (fun _ => t_L_25 hs hP.1 hP.2.1 hP.2.2 hi kk) (And.intro (fun _ => t_L_26 hs hP.1 hP.2.1 hP.2.2 hi kk) (And.intro (fun _ => t_L_27 hs hP.1 hP.2.1 hP.2.2 hi kk) (And.intro (fun _ => t_L_28 hs hP.1 hP.2.1 hP.2.2 hi kk) (And.intro (fun _ => t_L_29 hs hP.1 hP.2.1 hP.2.2 hi kk) (And.intro (fun _ => t_L_30 hs hP.1 hP.2.1 hP.2.2 hi kk) (And.intro (fun _ => t_L_31 hs hP.1 hP.2.1 hP.2.2 hi kk) (And.intro (fun _ => t_L_32 hs hP.1 hP.2.1 hP.2.2 hi kk) (And.intro (fun _ => t_L_33 hs hP.1 hP.2.1 hP.2.2 hi kk) (And.intro (fun _ => t_L_34 hs hP.1 hP.2.1 hP.2.2 hi kk) (And.intro (fun _ => t_L_35 hs hP.1 hP.2.1 hP.2.2 hi kk) (And.intro (fun _ => t_L_36 hs hP.1 hP.2.1 hP.2.2 hi kk) (And.intro (fun _ => t_L_37 hs hP.1 hP.2.1 hP.2.2 hi kk) (And.intro (fun _ => t_L_38 hs hP.1 hP.2.1 hP.2.2 hi kk) (And.intro (fun _ => t_L_39 hs hP.1 hP.2.1 hP.2.2 hi kk) (And.intro (fun _ => t_L_40 hs hP.1 hP.2.1 hP.2.2 hi kk) (And.intro (fun _ => t_L_41 hs hP.1 hP.2.1 hP.2.2 hi kk) (And.intro (fun _ => t_L_42 hs hP.1 hP.2.1 hP.2.2 hi kk) (And.intro (fun _ => t_L_43 hs hP.1 hP.2.1 hP.2.2 hi kk) (And.intro (fun _ => t_L_44 hs hP.1 hP.2.1 hP.2.2 hi kk) (And.intro (fun _ => t_L_45 hs hP.1 hP.2.1 hP.2.2 hi kk) (And.intro (fun _ => t_L_46 hs hP.1 hP.2.1 hP.2.2 hi kk) trivial)))))))))))))))))))))))))))))))))))))))))))))))

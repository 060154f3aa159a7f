-- ===== rules with the heap behind a write as a variable =====
section RULES
variable {G : sw_G} {N : Nat} {S : sw_S} {d : Nat} {M : sw_M} {pc : Nat} {f : sw_L} {st : List sw_V} {h : sw_H} {Q : Option sw_V → sw_H → Prop}
/-- h1 is h but for one place -/
def sw_to (h h1 : sw_H) (a k : Nat) (z : Int) : Prop := h1 a k = z ∧ ∀ b j, ¬ (b = a ∧ j = k) → h1 b j = h b j
theorem sw_to_up (h : sw_H) (a k : Nat) (z : Int) : sw_to h (sw_up h a k z) a k z := ⟨by simp [sw_up], fun b j hn => by simp [sw_up, hn]⟩
theorem sy_putI {ci n a k idx : Nat} {C : String} {T : u_T} {ty : Nat → FieldType} {l : List Nat} {z : Int} (hC : sw_C ci C T n ty) (hF : Cond.fieldLink M.1.cls idx (T k).1 (T k).2.1 (T k).2.2.1 ∈ gtb) (hd : decode M.2.1 pc = .ok (.putfield idx, 3)) (hS : S a = some (ci, l)) (ha : a < N) (hk : l[k]? = some 0) (hn : k < n)
    (hfin : (T k).2.2.2 = false) (hty : ty k = .int) (kk : ∀ h1, sw_to h h1 a k z → sw_E G N S d M (pc + 3) f st h1 Q) : sw_E G N S d M pc f (sw_i z :: sw_r a :: st) h Q :=
  sx_putI hC hF hd hS ha hk hn hfin hty (kk _ (sw_to_up h a k z))
theorem sy_putZ {ci n a k idx : Nat} {C : String} {T : u_T} {ty : Nat → FieldType} {l : List Nat} {z : Int} (hC : sw_C ci C T n ty) (hF : Cond.fieldLink M.1.cls idx (T k).1 (T k).2.1 (T k).2.2.1 ∈ gtb) (hd : decode M.2.1 pc = .ok (.putfield idx, 3)) (hS : S a = some (ci, l)) (ha : a < N) (hk : l[k]? = some 0) (hn : k < n)
    (hfin : (T k).2.2.2 = false) (hty : ty k = .boolean) (hz : z = 0 ∨ z = 1) (kk : ∀ h1, sw_to h h1 a k z → sw_E G N S d M (pc + 3) f st h1 Q) : sw_E G N S d M pc f (sw_i z :: sw_r a :: st) h Q :=
  sx_putZ hC hF hd hS ha hk hn hfin hty hz (kk _ (sw_to_up h a k z))
theorem sy_putL {ci n a k idx : Nat} {C : String} {T : u_T} {ty : Nat → FieldType} {l : List Nat} {z : Int} (hC : sw_C ci C T n ty) (hF : Cond.fieldLink M.1.cls idx (T k).1 (T k).2.1 (T k).2.2.1 ∈ gtb) (hd : decode M.2.1 pc = .ok (.putfield idx, 3)) (hS : S a = some (ci, l)) (ha : a < N) (hk : l[k]? = some 1) (hn : k < n)
    (hfin : (T k).2.2.2 = false) (hty : ty k = .long) (kk : ∀ h1, sw_to h h1 a k z → sw_E G N S d M (pc + 3) f st h1 Q) : sw_E G N S d M pc f (sw_l z :: sw_r a :: st) h Q :=
  sx_putL hC hF hd hS ha hk hn hfin hty (kk _ (sw_to_up h a k z))
theorem sy_putR {ci n a k idx t : Nat} {C : String} {T : u_T} {ty : Nat → FieldType} {l : List Nat} {o : String} (hC : sw_C ci C T n ty) (hF : Cond.fieldLink M.1.cls idx (T k).1 (T k).2.1 (T k).2.2.1 ∈ gtb) (hd : decode M.2.1 pc = .ok (.putfield idx, 3)) (hS : S a = some (ci, l)) (ha : a < N) (hk : l[k]? = some 2) (hn : k < n)
    (hfin : (T k).2.2.2 = false) (hty : ty k = .object o) (ht : t ≤ 100000) (kk : ∀ h1, sw_to h h1 a k (t : Int) → sw_E G N S d M (pc + 3) f st h1 Q) : sw_E G N S d M pc f (sw_r t :: sw_r a :: st) h Q :=
  sx_putR hC hF hd hS ha hk hn hfin hty ht (kk _ (sw_to_up h a k t))
theorem sy_iastore {a n : Nat} {i z : Int} (hd : decode M.2.1 pc = .ok (.iastore, 1)) (hS : S a = some (100, [n])) (ha : a < N) (hn : n ≤ 65536) (hi : 0 ≤ i ∧ i < n) (kk : ∀ h1, sw_to h h1 a i.toNat z → sw_E G N S d M (pc + 1) f st h1 Q) : sw_E G N S d M pc f (sw_i z :: sw_i i :: sw_r a :: st) h Q :=
  sx_iastore hd hS ha hn hi (kk _ (sw_to_up h a i.toNat z))
theorem sy_bastore {a n : Nat} {i z : Int} (hd : decode M.2.1 pc = .ok (.bastore, 1)) (hS : S a = some (101, [n])) (ha : a < N) (hn : n ≤ 65536) (hi : 0 ≤ i ∧ i < n) (hz : -128 ≤ z ∧ z ≤ 127) (kk : ∀ h1, sw_to h h1 a i.toNat z → sw_E G N S d M (pc + 1) f st h1 Q) : sw_E G N S d M pc f (sw_i z :: sw_i i :: sw_r a :: st) h Q :=
  sx_bastore hd hS ha hn hi hz (kk _ (sw_to_up h a i.toNat z))
theorem sy_zastore {a n : Nat} {i z : Int} (hd : decode M.2.1 pc = .ok (.bastore, 1)) (hS : S a = some (102, [n])) (ha : a < N) (hn : n ≤ 65536) (hi : 0 ≤ i ∧ i < n) (hz : z = 0 ∨ z = 1) (kk : ∀ h1, sw_to h h1 a i.toNat z → sw_E G N S d M (pc + 1) f st h1 Q) : sw_E G N S d M pc f (sw_i z :: sw_i i :: sw_r a :: st) h Q :=
  sx_zastore hd hS ha hn hi hz (kk _ (sw_to_up h a i.toNat z))
theorem sy_lastore {a n : Nat} {i z : Int} (hd : decode M.2.1 pc = .ok (.lastore, 1)) (hS : S a = some (103, [n])) (ha : a < N) (hn : n ≤ 65536) (hi : 0 ≤ i ∧ i < n) (kk : ∀ h1, sw_to h h1 a i.toNat z → sw_E G N S d M (pc + 1) f st h1 Q) : sw_E G N S d M pc f (sw_l z :: sw_i i :: sw_r a :: st) h Q :=
  sx_lastore hd hS ha hn hi (kk _ (sw_to_up h a i.toNat z))
theorem sx_ldcw {idx : Nat} {n : Int} (hl : Cond.constant M.1.cls idx (Int32.ofInt n) ∈ gtb) (hn : sw_ok32 n) (hd : decode M.2.1 pc = .ok (.ldc_w idx, 3)) (k : sw_E G N S d M (pc + 3) f (sw_i n :: st) h Q) : sw_E G N S d M pc f st h Q := by
  intro p l' e R s m args below meth c H locs cells slots F A X hW hH hs hL hR hF'
  exact lv_ldcw X.1 X.2.1 X.2.2.2.1 (sw_hts X args _ hl) hd (k p l' e R s m args below meth c H locs cells slots F A X hW hH (sw_okc (v := sw_i n) hn hs) hL hR hF')
theorem sy_refn {a : Nat} (k : ∀ b, b = a → sw_E G N S d M pc f (sw_r b :: st) h Q) : sw_E G N S d M pc f (sw_r a :: st) h Q := k a rfl
/-- a number on the stack gets a name -/
theorem sy_top {z : Int} (k : ∀ x, x = z → sw_E G N S d M pc f (sw_i x :: st) h Q) : sw_E G N S d M pc f (sw_i z :: st) h Q := k z rfl
/-- a sum that does not run over -/
theorem sy_topw {z : Int} (hz : -2147483648 ≤ z ∧ z ≤ 2147483647) (k : sw_E G N S d M pc f (sw_i z :: st) h Q) : sw_E G N S d M pc f (sw_i (sw_w z) :: st) h Q := by rw [sw_w_id hz.1 hz.2]; exact k
theorem sy_max {x y : Int} (k : ∀ m, x ≤ m → y ≤ m → (m = x ∨ m = y) → sw_E G N S d M pc f (sw_i m :: st) h Q) : sw_E G N S d M pc f (sw_i (if x < y then y else x) :: st) h Q := k _ (by split <;> omega) (by split <;> omega) (by split <;> omega)
theorem sy_min {x y : Int} (k : ∀ m, m ≤ x → m ≤ y → (m = x ∨ m = y) → sw_E G N S d M pc f (sw_i m :: st) h Q) : sw_E G N S d M pc f (sw_i (if y < x then y else x) :: st) h Q := k _ (by split <;> omega) (by split <;> omega) (by split <;> omega)
end RULES
def sw_kl : sw_L → Nat → sw_L
  | [], _ => []
  | _ :: t, 0 => none :: t
  | x :: t, n + 1 => x :: sw_kl t n
theorem sw_kl_of : ∀ (f : sw_L) (i j : Nat) (v : sw_V), sw_g (sw_kl f i) j = some v → sw_g f j = some v
  | [], _, _, _, h => h
  | _ :: _, 0, 0, _, h => by simp [sw_kl, sw_g] at h
  | _ :: _, 0, _ + 1, _, h => h
  | _ :: _, _ + 1, 0, _, h => h
  | _ :: t, n + 1, j + 1, v, h => sw_kl_of t n j v h
/-- a local that is not wanted any more -/
theorem sx_kill {G : sw_G} {N : Nat} {S : sw_S} {d : Nat} {M : sw_M} {pc : Nat} {f : sw_L} {st : List sw_V} {h : sw_H} {Q : Option sw_V → sw_H → Prop} (i : Nat) (k : sw_E G N S d M pc (sw_kl f i) st h Q) : sw_E G N S d M pc f st h Q := by
  intro p l e R s m args below meth c H locs cells slots F A X hW hH hS hL hR hF
  exact k p l e R s m args below meth c H locs cells slots F A X hW hH hS (fun j v hj => hL j v (sw_kl_of f i j v hj)) ⟨hR.1, hR.2.1, fun j v hj => hR.2.2 j v (sw_kl_of f i j v hj)⟩ hF
theorem sy_dec {a b : Int} (h1 : b < a) (h2 : 0 < a) : b.toNat < a.toNat := by omega
theorem sd_rng (t i : Nat) : 0 ≤ sw_sd t i ∧ sw_sd t i ≤ 3 := by
  have key : ∀ (l : List Int), (∀ z ∈ l, 0 ≤ z ∧ z ≤ 3) → 0 ≤ l.getD i 0 ∧ l.getD i 0 ≤ 3 := by
    intro l hl
    rw [List.getD_eq_getElem?_getD]
    cases hg : l[i]? with
    | none => exact ⟨by decide, by decide⟩
    | some z => exact hl z (List.mem_of_getElem? hg)
  refine key _ ?_
  unfold sw_sdl
  intro z hz
  split at hz
  · simp at hz; omega
  · split at hz <;> (simp at hz; omega)
theorem sd_on1 (t : Int) : t < 8 ∨ 14 < t ∨ sw_sd 1 t.toNat = 1 := by
  by_cases h1 : t < 8
  · exact Or.inl h1
  · by_cases h2 : 14 < t
    · exact Or.inr (Or.inl h2)
    · refine Or.inr (Or.inr ?_)
      have h : t = 8 ∨ t = 9 ∨ t = 10 ∨ t = 11 ∨ t = 12 ∨ t = 13 ∨ t = 14 := by omega
      rcases h with rfl | rfl | rfl | rfl | rfl | rfl | rfl <;> rfl
section RULES2
variable {G : sw_G} {N : Nat} {S : sw_S} {d : Nat} {M : sw_M} {pc : Nat} {f : sw_L} {st : List sw_V} {h : sw_H} {Q : Option sw_V → sw_H → Prop}
theorem sy_sia {t : Nat} {n : Int} {i : Int} (ht : t < 3) (hd : decode M.2.1 pc = .ok (.iaload, 1)) (hn : n = ((sw_sdl t).length : Int)) (hi : 0 ≤ i ∧ i < n) (kk : 0 ≤ sw_sd t i.toNat ∧ sw_sd t i.toNat ≤ 3 → sw_E G N S d M (pc + 1) f (sw_i (sw_sd t i.toNat) :: st) h Q) : sw_E G N S d M pc f (sw_i i :: sw_r (100000 + t) :: st) h Q := sx_siaload ht hd (hn ▸ hi) (kk (sd_rng _ _))
theorem sy_iaF {F : Int → Prop} {a n : Nat} {i : Int} (hd : decode M.2.1 pc = .ok (.iaload, 1)) (hS : S a = some (100, [n])) (ha : a < N) (hn : n ≤ 65536) (hi : 0 ≤ i ∧ i < n) (hF : F (h a i.toNat)) (kk : F (h a i.toNat) → sw_E G N S d M (pc + 1) f (sw_i (h a i.toNat) :: st) h Q) : sw_E G N S d M pc f (sw_i i :: sw_r a :: st) h Q := sx_iaload hd hS ha hn hi (kk hF)
end RULES2
theorem sx_loop0 (I : sw_H → Prop) (mu : sw_H → Nat) (E : sw_H → Prop) (step : ∀ h, I h → (∀ h', I h' → mu h' < mu h → E h') → E h) (h : sw_H) (hi : I h) : E h := sx_loop I mu E step h hi
theorem sx_loop1 (I : sw_H → Int → Prop) (mu : sw_H → Int → Nat) (E : sw_H → Int → Prop) (step : ∀ h a, I h a → (∀ h' a', I h' a' → mu h' a' < mu h a → E h' a') → E h a) (h : sw_H) (a : Int) (hi : I h a) : E h a :=
  sx_loop (Y := sw_H × Int) (fun y => I y.1 y.2) (fun y => mu y.1 y.2) (fun y => E y.1 y.2) (fun y hy ih => step y.1 y.2 hy (fun h' a' q1 q2 => ih (h', a') q1 q2)) (h, a) hi
theorem sx_loop2 (I : sw_H → Int → Int → Prop) (mu : sw_H → Int → Int → Nat) (E : sw_H → Int → Int → Prop) (step : ∀ h a b, I h a b → (∀ h' a' b', I h' a' b' → mu h' a' b' < mu h a b → E h' a' b') → E h a b) (h : sw_H) (a b : Int) (hi : I h a b) : E h a b :=
  sx_loop (Y := sw_H × Int × Int) (fun y => I y.1 y.2.1 y.2.2) (fun y => mu y.1 y.2.1 y.2.2) (fun y => E y.1 y.2.1 y.2.2) (fun y hy ih => step y.1 y.2.1 y.2.2 hy (fun h' a' b' q1 q2 => ih (h', a', b') q1 q2)) (h, a, b) hi
theorem sx_loop3 (I : sw_H → Int → Int → Int → Prop) (mu : sw_H → Int → Int → Int → Nat) (E : sw_H → Int → Int → Int → Prop) (step : ∀ h a b c, I h a b c → (∀ h' a' b' c', I h' a' b' c' → mu h' a' b' c' < mu h a b c → E h' a' b' c') → E h a b c) (h : sw_H) (a b c : Int) (hi : I h a b c) : E h a b c :=
  sx_loop (Y := sw_H × Int × Int × Int) (fun y => I y.1 y.2.1 y.2.2.1 y.2.2.2) (fun y => mu y.1 y.2.1 y.2.2.1 y.2.2.2) (fun y => E y.1 y.2.1 y.2.2.1 y.2.2.2) (fun y hy ih => step y.1 y.2.1 y.2.2.1 y.2.2.2 hy (fun h' a' b' c' q1 q2 => ih (h', a', b', c') q1 q2)) (h, a, b, c) hi
theorem sx_loop4 (I : sw_H → Int → Int → Int → Int → Prop) (mu : sw_H → Int → Int → Int → Int → Nat) (E : sw_H → Int → Int → Int → Int → Prop) (step : ∀ h a b c e, I h a b c e → (∀ h' a' b' c' e', I h' a' b' c' e' → mu h' a' b' c' e' < mu h a b c e → E h' a' b' c' e') → E h a b c e) (h : sw_H) (a b c e : Int) (hi : I h a b c e) : E h a b c e :=
  sx_loop (Y := sw_H × Int × Int × Int × Int) (fun y => I y.1 y.2.1 y.2.2.1 y.2.2.2.1 y.2.2.2.2) (fun y => mu y.1 y.2.1 y.2.2.1 y.2.2.2.1 y.2.2.2.2) (fun y => E y.1 y.2.1 y.2.2.1 y.2.2.2.1 y.2.2.2.2) (fun y hy ih => step y.1 y.2.1 y.2.2.1 y.2.2.2.1 y.2.2.2.2 hy (fun h' a' b' c' e' q1 q2 => ih (h', a', b', c', e') q1 q2)) (h, a, b, c, e) hi
/-- System.arraycopy of ints -/
theorem sx_copy {G : sw_G} {N : Nat} {S : sw_S} {d : Nat} {M : sw_M} {pc : Nat} {f : sw_L} {st : List sw_V} {h : sw_H} {Q : Option sw_V → sw_H → Prop} {idx a b n0 n1 : Nat} {sp dp n : Int} (hl : Cond.methodLink M.1.cls idx arraycopyName ∈ gtb) (hw : Cond.native arraycopyName ∈ gtb ∧ Cond.static arraycopyName ∈ gtb ∧ Cond.initialized "java/lang/System" ∈ gtb) (hd : decode M.2.1 pc = .ok (.invokestatic idx, 3))
    (hSa : S a = some (100, [n0])) (ha : a < N) (hSb : S b = some (100, [n1])) (hb : b < N) (hn0 : n0 ≤ 65536) (hn1 : n1 ≤ 65536) (h1 : 0 ≤ sp ∧ 0 ≤ dp ∧ 0 ≤ n) (h2 : sp + n ≤ n0 ∧ dp + n ≤ n1) (hcat : ((st.map (sw_v G)).map fun v => v.category).sum ≤ 8) (hfr : nativeFrameWords "java/lang/System" "arraycopy" 5 ≤ 40)
    (kk : ∀ hh : sw_H, (∀ c j, c ≠ b → hh c j = h c j) → (∀ j, hh b j = if dp.toNat ≤ j ∧ j < dp.toNat + n.toNat then h a (sp.toNat + (j - dp.toNat)) else h b j) → sw_E G N S (d + 1) M (pc + 3) f st hh Q) : sw_E G N S (d + 1) M pc f (sw_i n :: sw_i dp :: sw_r b :: sw_i sp :: sw_r a :: st) h Q := by
  intro p l' e R s m args below meth c H locs cells slots F A X hW hH hs hL hR hF'
  have hts := sw_hts X args
  obtain ⟨x1, x2, x3, x4, x5, x6, x7, x8, x9, x10, x11, x12, x13, x14⟩ := id X
  have on : sw_ok32 n := by unfold sw_ok32; omega
  have od : sw_ok32 dp := by unfold sw_ok32; omega
  have os : sw_ok32 sp := by unfold sw_ok32; omega
  have tn : ∀ z : Int, sw_ok32 z → (Int32.ofInt z).toNatClampNeg = z.toNat := fun z hz => by
    show (Int32.ofInt z).toInt.toNat = z.toNat
    rw [sw_ti hz]
  have nl : ∀ z : Int, sw_ok32 z → 0 ≤ z → ¬ Int32.ofInt z < 0 := fun z hz h0 q => by
    rw [show (0 : Int32) = Int32.ofInt 0 from rfl, sw_lt hz sw_ok0] at q
    omega
  have wa := sw_ws_arr (G := G) (h := h) (t := 0) hSa (by omega) ha
  have wb := sw_ws_arr (G := G) (h := h) (t := 0) hSb (by omega) hb
  refine va_copyi x1 x2 (x3.trans hR.1.symm) x4 (hts _ hl) (hts _ hw.1) (hts _ hw.2.1) (hts _ hw.2.2) (sw_hK X) hW.1 (sw_D x8) hW.2 a b 0 0 wa wb rfl rfl rfl (nl _ os h1.1) (nl _ od h1.2.1) (nl _ on h1.2.2) (by rw [tn _ os, tn _ on]; omega) (by rw [tn _ od, tn _ on]; omega) (fun i _ => rfl) (by omega) (by omega) hd (fun H1 locs1 hP1 _ hS1 => ?_)
  rw [tn _ os, tn _ od, tn _ on] at hP1
  have key : ∃ hh : sw_H, (∀ c j, c ≠ b → hh c j = h c j) ∧ (∀ j, hh b j = if dp.toNat ≤ j ∧ j < dp.toNat + n.toNat then h a (sp.toNat + (j - dp.toNat)) else h b j) :=
    ⟨fun c j => if c = b then (if dp.toNat ≤ j ∧ j < dp.toNat + n.toNat then h a (sp.toNat + (j - dp.toNat)) else h b j) else h c j, fun c j hc => by simp [hc], fun j => by simp⟩
  obtain ⟨hh, k1, k2⟩ := key
  have hset : (sw_ws G N S h).set b (sw_ad G b, .inl (G.2.2.1 0, n1, .inl (va_cpy (fun i => Int32.ofInt (h a i)) (fun i => Int32.ofInt (h b i)) sp.toNat dp.toNat n.toNat))) = sw_ws G N S hh := by
    refine sw_ws_set hb ?_ (fun q hq => ?_)
    · have := sw_ws_arr (G := G) (h := hh) (t := 0) hSb (by omega) hb
      rw [sw_ws_get hb] at this
      have e := congrArg Prod.snd (Option.some.inj this)
      rw [show sw_ce G (hh b) (S b) = _ from e]
      congr 4
      funext j
      rw [k2 j]
      simp only [va_cpy]
      split <;> rfl
    · funext j
      exact k1 q j hq
  rw [hset] at hP1
  refine kk hh k1 k2 p l' e R s m args below meth c H1 locs1 cells slots F A X ⟨hP1, hS1⟩ (fun q j => ?_) (fun v hv => hs v (by simp [hv])) hL hR hF'
  by_cases hq : q = b
  · subst hq
    rw [k2 j, hSb]
    split
    · exact sw_okH_at (o := some (100, [n0])) hH hSa
    · exact sw_okH_at (o := some (100, [n1])) hH hSb
  · rw [k1 q j hq]
    exact hH q j

-- ===== fields and arrays =====
/-- what the tables say of a class -/
def sw_C (ci : Nat) (C : String) (T : u_T) (n : Nat) (ty : Nat → FieldType) : Prop := vwCl[ci]? = some (C, T, n) ∧ (∀ w ∈ u_ws C T n, w ∈ gtb) ∧ (∀ k, k < n → parseFieldDescriptor (T k).2.2.1 = some (ty k)) ∧ (∀ a, a < n → ∀ b, b < n → a ≠ b → (T a).2.1 ≠ (T b).2.1) ∧ ci < 100
section RULES
variable {G : sw_G} {N : Nat} {S : sw_S} {d : Nat} {M : sw_M} {pc : Nat} {f : sw_L} {st : List sw_V} {h : sw_H} {Q : Option sw_V → sw_H → Prop}
theorem sw_hts {p : Program} {R : Room} {s : State} {m : MethodId} {meth : Method} {c : Code} {cells slots : Nat} (X : sw_X G N d p R s m meth c M cells slots) (args : Array Value) : ∀ w ∈ gtb, w.before args s = true := by
  obtain ⟨-, -, -, -, -, hW, ⟨⟨A0, hA⟩, -⟩, -⟩ := X
  intro w hw
  obtain ⟨h1, h2⟩ := List.mem_filter.mp hw
  exact word_at hW (good_of_word h2) (hA w h1)
theorem sw_hK {p : Program} {R : Room} {s : State} {m : MethodId} {meth : Method} {c : Code} {cells slots : Nat} (X : sw_X G N d p R s m meth c M cells slots) : va_K G.2.1 vwCl (sw_ty G) s := by
  obtain ⟨-, -, -, -, -, hW, ⟨-, hK, -⟩, -⟩ := X
  exact va_K.moved hW.alike hK
theorem sw_fs_get (G : sw_G) (g : Nat → Int) : ∀ (l : List Nat) (i k code : Nat), l[k]? = some code → (sw_fs G g i l)[k]? = some (sw_sv G code (g (i + k)))
  | [], _, _, _, hk => by simp at hk
  | c :: l, i, 0, code, hk => by
    simp only [List.getElem?_cons_zero, Option.some.injEq] at hk
    subst hk
    rfl
  | c :: l, i, k + 1, code, hk => by
    have := sw_fs_get G g l (i + 1) k code (by simpa using hk)
    rw [show i + (k + 1) = i + 1 + k by omega]
    simpa [sw_fs] using this
theorem sw_fs_len (G : sw_G) (g : Nat → Int) : ∀ (l : List Nat) (i : Nat), (sw_fs G g i l).length = l.length
  | [], _ => rfl
  | _ :: l, i => by simp [sw_fs, sw_fs_len G g l (i + 1)]
theorem sw_fs_congr (G : sw_G) {g g' : Nat → Int} : ∀ (l : List Nat) (i : Nat), (∀ j, i ≤ j → g j = g' j) → sw_fs G g i l = sw_fs G g' i l
  | [], _, _ => rfl
  | c :: l, i, hg => by
    show sw_sv G c (g i) :: sw_fs G g (i + 1) l = sw_sv G c (g' i) :: sw_fs G g' (i + 1) l
    rw [hg i (Nat.le_refl i), sw_fs_congr G l (i + 1) (fun j hj => hg j (by omega))]
theorem sw_fs_set (G : sw_G) (g : Nat → Int) (z : Int) : ∀ (l : List Nat) (i k code : Nat), l[k]? = some code → (sw_fs G g i l).set k (sw_sv G code z) = sw_fs G (fun j => if j = i + k then z else g j) i l
  | [], _, _, _, hk => by simp at hk
  | c :: l, i, 0, code, hk => by
    simp only [List.getElem?_cons_zero, Option.some.injEq] at hk
    subst hk
    show sw_sv G c z :: sw_fs G g (i + 1) l = sw_sv G c (if i = i + 0 then z else g i) :: sw_fs G _ (i + 1) l
    rw [if_pos (by omega)]
    rw [sw_fs_congr G (g := g) (g' := fun j => if j = i + 0 then z else g j) l (i + 1) (fun j hj => (if_neg (by omega)).symm)]
  | c :: l, i, k + 1, code, hk => by
    show sw_sv G c (g i) :: (sw_fs G g (i + 1) l).set k (sw_sv G code z) = sw_sv G c (if i = i + (k + 1) then z else g i) :: sw_fs G _ (i + 1) l
    rw [if_neg (by omega), sw_fs_set G g z l (i + 1) k code (by simpa using hk)]
    rw [sw_fs_congr G l (i + 1) (fun j _ => by rw [show i + 1 + k = i + (k + 1) by omega])]
theorem sw_ce_obj {g : Nat → Int} {ci : Nat} {l : List Nat} (hc : ci < 100) : sw_ce G g (some (ci, l)) = .inr (ci, sw_fs G g 0 l) := by simp [sw_ce, hc]
/-- a field is read -/
theorem sx_get {ci n a k code idx : Nat} {C : String} {T : u_T} {ty : Nat → FieldType} {l : List Nat} {v : sw_V} (hC : sw_C ci C T n ty) (hF : Cond.fieldLink M.1.cls idx (T k).1 (T k).2.1 (T k).2.2.1 ∈ gtb) (hd : decode M.2.1 pc = .ok (.getfield idx, 3)) (hS : S a = some (ci, l)) (ha : a < N) (hk : l[k]? = some code) (hn : k < n)
    (hv : sw_sv G code (h a k) = sw_v G v) (hok : sw_okH S h → sw_ok v) (kk : sw_E G N S d M (pc + 3) f (v :: st) h Q) : sw_E G N S d M pc f (sw_r a :: st) h Q := by
  intro p l' e R s m args below meth c H locs cells slots F A X hW hH hs hL hR hF'
  obtain ⟨c1, c2, c3, c4, c5⟩ := hC
  have he : (sw_ws G N S h)[a]? = some (sw_ad G a, .inr (ci, sw_fs G (h a) 0 l)) := by rw [sw_ws_get ha, hS, sw_ce_obj c5]
  have hts := sw_hts X args
  refine va_get (ci := ci) (C := C) (T := T) (N := n) (ref := (T k).1) X.1 X.2.1 hts c2 X.2.2.2.1 (sw_hK X) hW.1 a he c1 k hn (hts _ hF) (fun _ q => q) (v := sw_v G v) ?_ hd ?_
  · rw [sw_fs_get G (h a) l 0 k code hk, Nat.zero_add, hv]
  · exact kk p l' e R s m args below meth c H locs cells slots F A X hW hH (sw_okc (hok hH) (sw_okt hs)) hL hR hF'
theorem sw_okz_obj {ci k code : Nat} {l : List Nat} {z : Int} (hc : ci < 100) (hk : l[k]? = some code) : sw_okz (some (ci, l)) k z = if code = 1 then sw_ok64 z else sw_ok32 z := by
  simp [sw_okz, hc, List.getD, hk]
theorem sw_okH_at {a k : Nat} {o : Option (Nat × List Nat)} (hH : sw_okH S h) (hS : S a = o) : sw_okz o k (h a k) := hS ▸ hH a k
theorem sx_getI {ci n a k idx : Nat} {C : String} {T : u_T} {ty : Nat → FieldType} {l : List Nat} (hC : sw_C ci C T n ty) (hF : Cond.fieldLink M.1.cls idx (T k).1 (T k).2.1 (T k).2.2.1 ∈ gtb) (hd : decode M.2.1 pc = .ok (.getfield idx, 3)) (hS : S a = some (ci, l)) (ha : a < N) (hk : l[k]? = some 0) (hn : k < n)
    (kk : sw_E G N S d M (pc + 3) f (sw_i (h a k) :: st) h Q) : sw_E G N S d M pc f (sw_r a :: st) h Q :=
  sx_get (v := sw_i (h a k)) hC hF hd hS ha hk hn rfl (fun hH => by have := sw_okH_at (k := k) hH hS; rw [sw_okz_obj hC.2.2.2.2 hk] at this; exact this) kk
theorem sx_getL {ci n a k idx : Nat} {C : String} {T : u_T} {ty : Nat → FieldType} {l : List Nat} (hC : sw_C ci C T n ty) (hF : Cond.fieldLink M.1.cls idx (T k).1 (T k).2.1 (T k).2.2.1 ∈ gtb) (hd : decode M.2.1 pc = .ok (.getfield idx, 3)) (hS : S a = some (ci, l)) (ha : a < N) (hk : l[k]? = some 1) (hn : k < n)
    (kk : sw_E G N S d M (pc + 3) f (sw_l (h a k) :: st) h Q) : sw_E G N S d M pc f (sw_r a :: st) h Q :=
  sx_get (v := sw_l (h a k)) hC hF hd hS ha hk hn rfl (fun hH => by have := sw_okH_at (k := k) hH hS; rw [sw_okz_obj hC.2.2.2.2 hk] at this; exact this) kk
theorem sx_getS {ci n a k idx t : Nat} {C : String} {T : u_T} {ty : Nat → FieldType} {l : List Nat} (hC : sw_C ci C T n ty) (hF : Cond.fieldLink M.1.cls idx (T k).1 (T k).2.1 (T k).2.2.1 ∈ gtb) (hd : decode M.2.1 pc = .ok (.getfield idx, 3)) (hS : S a = some (ci, l)) (ha : a < N) (hk : l[k]? = some (t + 3)) (hn : k < n)
    (kk : sw_E G N S d M (pc + 3) f (sw_r t :: st) h Q) : sw_E G N S d M pc f (sw_r a :: st) h Q :=
  sx_get (v := sw_r t) hC hF hd hS ha hk hn rfl (fun _ => trivial) kk
theorem sx_getR {ci n a k idx : Nat} {C : String} {T : u_T} {ty : Nat → FieldType} {l : List Nat} {t : Nat} (hC : sw_C ci C T n ty) (hF : Cond.fieldLink M.1.cls idx (T k).1 (T k).2.1 (T k).2.2.1 ∈ gtb) (hd : decode M.2.1 pc = .ok (.getfield idx, 3)) (hS : S a = some (ci, l)) (ha : a < N) (hk : l[k]? = some 2) (hn : k < n) (ht : h a k = (t : Int))
    (kk : sw_E G N S d M (pc + 3) f (sw_r t :: st) h Q) : sw_E G N S d M pc f (sw_r a :: st) h Q :=
  sx_get (v := sw_r t) hC hF hd hS ha hk hn (by rw [ht]; simp only [sw_sv, sw_v]; rw [if_neg (by omega), Int.toNat_natCast]) (fun _ => trivial) kk
theorem sw_okH_up {a k : Nat} {z : Int} (hH : sw_okH S h) (hz : sw_okz (S a) k z) : sw_okH S (sw_up h a k z) := by
  intro b j
  by_cases e : b = a ∧ j = k
  · obtain ⟨rfl, rfl⟩ := e
    simp only [sw_up, and_self, if_true]
    exact hz
  · simp only [sw_up, if_neg e]
    exact hH b j
/-- a field is written -/
theorem sx_put {ci n a k code idx : Nat} {C : String} {T : u_T} {ty : Nat → FieldType} {l : List Nat} {v : sw_V} {z : Int} (hC : sw_C ci C T n ty) (hF : Cond.fieldLink M.1.cls idx (T k).1 (T k).2.1 (T k).2.2.1 ∈ gtb) (hd : decode M.2.1 pc = .ok (.putfield idx, 3)) (hS : S a = some (ci, l)) (ha : a < N) (hk : l[k]? = some code) (hn : k < n)
    (hfin : (T k).2.2.2 = false) (hv : sw_sv G code z = sw_v G v) (hna : narrow (ty k) (sw_v G v) = sw_v G v) (hfit : fits (ty k) (sw_v G v) = true) (hok : sw_ok v → sw_okz (S a) k z)
    (kk : sw_E G N S d M (pc + 3) f st (sw_up h a k z) Q) : sw_E G N S d M pc f (v :: sw_r a :: st) h Q := by
  intro p l' e R s m args below meth c H locs cells slots F A X hW hH hs hL hR hF'
  obtain ⟨c1, c2, c3, c4, c5⟩ := hC
  have he : (sw_ws G N S h)[a]? = some (sw_ad G a, .inr (ci, sw_fs G (h a) 0 l)) := by rw [sw_ws_get ha, hS, sw_ce_obj c5]
  have hts := sw_hts X args
  have hN : N ≤ 100000 := X.2.2.2.2.2.2.2.1
  obtain ⟨hP, hSS⟩ := hW
  refine va_put (ci := ci) (C := C) (T := T) (N := n) (ref := (T k).1) X.1 X.2.1 hts c2 ty c3 c4 X.2.2.2.1 (sw_hK X) hP (sw_D hN) hSS a he c1 k hn (hts _ hF) (fun _ q => q) hfin (v := sw_v G v) (c3 k hn) hna hfit (by rw [sw_fs_len]; exact (List.getElem?_eq_some_iff.mp hk).1) hd (fun H1 locs1 hP1 _ hS1 => ?_)
  have hset : (sw_ws G N S h).set a (sw_ad G a, .inr (ci, (sw_fs G (h a) 0 l).set k (sw_v G v))) = sw_ws G N S (sw_up h a k z) := by
    refine sw_ws_set ha ?_ (fun b hb => ?_)
    · rw [hS, sw_ce_obj c5, ← hv, sw_fs_set G (h a) z l 0 k code hk]
      rw [sw_fs_congr G (g' := sw_up h a k z a) l 0 (fun j _ => by simp [sw_up])]
    · funext j
      simp [sw_up, hb]
  rw [hset] at hP1
  exact kk p l' e R s m args below meth c H1 locs1 cells slots F A X ⟨hP1, hS1⟩ (sw_okH_up hH (hok (sw_okh hs))) (sw_okt (sw_okt hs)) hL hR hF'
theorem sx_putI {ci n a k idx : Nat} {C : String} {T : u_T} {ty : Nat → FieldType} {l : List Nat} {z : Int} (hC : sw_C ci C T n ty) (hF : Cond.fieldLink M.1.cls idx (T k).1 (T k).2.1 (T k).2.2.1 ∈ gtb) (hd : decode M.2.1 pc = .ok (.putfield idx, 3)) (hS : S a = some (ci, l)) (ha : a < N) (hk : l[k]? = some 0) (hn : k < n)
    (hfin : (T k).2.2.2 = false) (hty : ty k = .int) (kk : sw_E G N S d M (pc + 3) f st (sw_up h a k z) Q) : sw_E G N S d M pc f (sw_i z :: sw_r a :: st) h Q :=
  sx_put (v := sw_i z) (z := z) hC hF hd hS ha hk hn hfin rfl (by rw [hty]; rfl) (by rw [hty]; rfl) (fun o => by rw [hS, sw_okz_obj hC.2.2.2.2 hk]; exact o) kk
theorem sx_putZ {ci n a k idx : Nat} {C : String} {T : u_T} {ty : Nat → FieldType} {l : List Nat} {z : Int} (hC : sw_C ci C T n ty) (hF : Cond.fieldLink M.1.cls idx (T k).1 (T k).2.1 (T k).2.2.1 ∈ gtb) (hd : decode M.2.1 pc = .ok (.putfield idx, 3)) (hS : S a = some (ci, l)) (ha : a < N) (hk : l[k]? = some 0) (hn : k < n)
    (hfin : (T k).2.2.2 = false) (hty : ty k = .boolean) (hz : z = 0 ∨ z = 1) (kk : sw_E G N S d M (pc + 3) f st (sw_up h a k z) Q) : sw_E G N S d M pc f (sw_i z :: sw_r a :: st) h Q :=
  sx_put (v := sw_i z) (z := z) hC hF hd hS ha hk hn hfin rfl (by rw [hty]; rcases hz with rfl | rfl <;> rfl) (by rw [hty]; rcases hz with rfl | rfl <;> rfl) (fun o => by rw [hS, sw_okz_obj hC.2.2.2.2 hk]; exact o) kk
theorem sx_putL {ci n a k idx : Nat} {C : String} {T : u_T} {ty : Nat → FieldType} {l : List Nat} {z : Int} (hC : sw_C ci C T n ty) (hF : Cond.fieldLink M.1.cls idx (T k).1 (T k).2.1 (T k).2.2.1 ∈ gtb) (hd : decode M.2.1 pc = .ok (.putfield idx, 3)) (hS : S a = some (ci, l)) (ha : a < N) (hk : l[k]? = some 1) (hn : k < n)
    (hfin : (T k).2.2.2 = false) (hty : ty k = .long) (kk : sw_E G N S d M (pc + 3) f st (sw_up h a k z) Q) : sw_E G N S d M pc f (sw_l z :: sw_r a :: st) h Q :=
  sx_put (v := sw_l z) (z := z) hC hF hd hS ha hk hn hfin rfl (by rw [hty]; rfl) (by rw [hty]; rfl) (fun o => by rw [hS, sw_okz_obj hC.2.2.2.2 hk]; exact o) kk
theorem sx_putR {ci n a k idx t : Nat} {C : String} {T : u_T} {ty : Nat → FieldType} {l : List Nat} {o : String} (hC : sw_C ci C T n ty) (hF : Cond.fieldLink M.1.cls idx (T k).1 (T k).2.1 (T k).2.2.1 ∈ gtb) (hd : decode M.2.1 pc = .ok (.putfield idx, 3)) (hS : S a = some (ci, l)) (ha : a < N) (hk : l[k]? = some 2) (hn : k < n)
    (hfin : (T k).2.2.2 = false) (hty : ty k = .object o) (ht : t ≤ 100000) (kk : sw_E G N S d M (pc + 3) f st (sw_up h a k (t : Int)) Q) : sw_E G N S d M pc f (sw_r t :: sw_r a :: st) h Q :=
  sx_put (v := sw_r t) (z := (t : Int)) hC hF hd hS ha hk hn hfin (by simp only [sw_sv, sw_v]; rw [if_neg (by omega), Int.toNat_natCast]) (by rw [hty]; rfl) (by rw [hty]; rfl) (fun _ => by rw [hS, sw_okz_obj hC.2.2.2.2 hk]; show sw_ok32 _; unfold sw_ok32; omega) kk
-- arrays
theorem sw_ws_arr {a n t : Nat} (hS : S a = some (100 + t, [n])) (ht : t < 3) (ha : a < N) : (sw_ws G N S h)[a]? = some (sw_ad G a, .inl (G.2.2.1 t, n, .inl (fun i => Int32.ofInt (h a i)))) := by
  rw [sw_ws_get ha, hS]
  have h1 : ¬ 100 + t < 100 := by omega
  have h2 : ¬ 100 + t = 103 := by omega
  have h3 : ¬ 100 + t = 104 := by omega
  have h4 : ¬ 100 + t = 105 := by omega
  have h5 : 100 + t - 100 = t := by omega
  simp only [sw_ce, if_neg h1, if_neg h2, if_neg h3, if_neg h4, h5, List.headD_cons]
theorem sw_ws_arrL {a n : Nat} (hS : S a = some (103, [n])) (ha : a < N) : (sw_ws G N S h)[a]? = some (sw_ad G a, .inl (G.2.2.1 3, n, .inr (.inl (fun i => Int64.ofInt (h a i))))) := by
  rw [sw_ws_get ha, hS]
  simp [sw_ce]
theorem sw_upd_arr {a n t i : Nat} {z : Int} (hS : S a = some (100 + t, [n])) (ht : t < 3) (ha : a < N) : (sw_ws G N S h).set a (sw_ad G a, .inl (G.2.2.1 t, n, .inl (upd (fun i => Int32.ofInt (h a i)) i (Int32.ofInt z)))) = sw_ws G N S (sw_up h a i z) := by
  refine sw_ws_set ha ?_ (fun b hb => ?_)
  · have := sw_ws_arr (G := G) (h := sw_up h a i z) hS ht ha
    rw [sw_ws_get ha] at this
    have e := congrArg Prod.snd (Option.some.inj this)
    rw [show sw_ce G (sw_up h a i z a) (S a) = _ from e]
    congr 4
    funext j
    simp only [upd, sw_up, true_and]
    split <;> rfl
  · funext j
    simp [sw_up, hb]
theorem sx_iaload {a n : Nat} {i : Int} (hd : decode M.2.1 pc = .ok (.iaload, 1)) (hS : S a = some (100, [n])) (ha : a < N) (hn : n ≤ 65536) (hi : 0 ≤ i ∧ i < n) (kk : sw_E G N S d M (pc + 1) f (sw_i (h a i.toNat) :: st) h Q) : sw_E G N S d M pc f (sw_i i :: sw_r a :: st) h Q := by
  intro p l' e R s m args below meth c H locs cells slots F A X hW hH hs hL hR hF'
  obtain ⟨hv, he⟩ := sw_in hi.1 hi.2 hn
  have hw := sw_ws_arr (G := G) (h := h) (t := 0) hS (by omega) ha
  refine va_iald X.1 X.2.1 (sw_hK X) hW.1 a 0 hw rfl hv hd ?_
  rw [he]
  exact kk p l' e R s m args below meth c H locs cells slots F A X hW hH (sw_okc (v := sw_i _) (sw_okH_at (k := i.toNat) hH hS) (sw_okt (sw_okt hs))) hL hR hF'
theorem sx_baload {a n : Nat} {i : Int} (hd : decode M.2.1 pc = .ok (.baload, 1)) (hS : S a = some (101, [n])) (ha : a < N) (hn : n ≤ 65536) (hi : 0 ≤ i ∧ i < n) (kk : -128 ≤ h a i.toNat → h a i.toNat ≤ 127 → sw_E G N S d M (pc + 1) f (sw_i (h a i.toNat) :: st) h Q) : sw_E G N S d M pc f (sw_i i :: sw_r a :: st) h Q := by
  intro p l' e R s m args below meth c H locs cells slots F A X hW hH hs hL hR hF'
  obtain ⟨hv, he⟩ := sw_in hi.1 hi.2 hn
  have hw := sw_ws_arr (G := G) (h := h) (t := 1) hS (by omega) ha
  refine va_bald X.1 X.2.1 (sw_hK X) hW.1 a 1 hw rfl hv hd ?_
  rw [he]
  have hb : -128 ≤ h a i.toNat ∧ h a i.toNat ≤ 127 := sw_okH_at (k := i.toNat) hH hS
  exact kk hb.1 hb.2 p l' e R s m args below meth c H locs cells slots F A X hW hH (sw_okc (v := sw_i _) (by show sw_ok32 _; unfold sw_ok32; omega) (sw_okt (sw_okt hs))) hL hR hF'
theorem sx_zaload {a n : Nat} {i : Int} (hd : decode M.2.1 pc = .ok (.baload, 1)) (hS : S a = some (102, [n])) (ha : a < N) (hn : n ≤ 65536) (hi : 0 ≤ i ∧ i < n) (kk : 0 ≤ h a i.toNat → h a i.toNat ≤ 1 → sw_E G N S d M (pc + 1) f (sw_i (h a i.toNat) :: st) h Q) : sw_E G N S d M pc f (sw_i i :: sw_r a :: st) h Q := by
  intro p l' e R s m args below meth c H locs cells slots F A X hW hH hs hL hR hF'
  obtain ⟨hv, he⟩ := sw_in hi.1 hi.2 hn
  have hw := sw_ws_arr (G := G) (h := h) (t := 2) hS (by omega) ha
  refine va_zald X.1 X.2.1 (sw_hK X) hW.1 a 2 hw rfl hv hd ?_
  rw [he]
  have hb : 0 ≤ h a i.toNat ∧ h a i.toNat ≤ 1 := sw_okH_at (k := i.toNat) hH hS
  exact kk hb.1 hb.2 p l' e R s m args below meth c H locs cells slots F A X hW hH (sw_okc (v := sw_i _) (by show sw_ok32 _; unfold sw_ok32; omega) (sw_okt (sw_okt hs))) hL hR hF'
theorem sx_laload {a n : Nat} {i : Int} (hd : decode M.2.1 pc = .ok (.laload, 1)) (hS : S a = some (103, [n])) (ha : a < N) (hn : n ≤ 65536) (hi : 0 ≤ i ∧ i < n) (kk : sw_E G N S d M (pc + 1) f (sw_l (h a i.toNat) :: st) h Q) : sw_E G N S d M pc f (sw_i i :: sw_r a :: st) h Q := by
  intro p l' e R s m args below meth c H locs cells slots F A X hW hH hs hL hR hF'
  obtain ⟨hv, he⟩ := sw_in hi.1 hi.2 hn
  have hw := sw_ws_arrL (G := G) (h := h) hS ha
  refine va_lald X.1 X.2.1 (sw_hK X) hW.1 a 3 hw rfl hv hd ?_
  rw [he]
  exact kk p l' e R s m args below meth c H locs cells slots F A X hW hH (sw_okc (v := sw_l _) (sw_okH_at (k := i.toNat) hH hS) (sw_okt (sw_okt hs))) hL hR hF'
theorem sx_iastore {a n : Nat} {i z : Int} (hd : decode M.2.1 pc = .ok (.iastore, 1)) (hS : S a = some (100, [n])) (ha : a < N) (hn : n ≤ 65536) (hi : 0 ≤ i ∧ i < n) (kk : sw_E G N S d M (pc + 1) f st (sw_up h a i.toNat z) Q) : sw_E G N S d M pc f (sw_i z :: sw_i i :: sw_r a :: st) h Q := by
  intro p l' e R s m args below meth c H locs cells slots F A X hW hH hs hL hR hF'
  obtain ⟨hv, he⟩ := sw_in hi.1 hi.2 hn
  have hw := sw_ws_arr (G := G) (h := h) (t := 0) hS (by omega) ha
  refine va_iast X.1 X.2.1 (sw_hK X) hW.1 (sw_D X.2.2.2.2.2.2.2.1) hW.2 a 0 hw rfl hv hd (fun H1 locs1 hP1 _ hS1 => ?_)
  rw [he, sw_upd_arr (t := 0) hS (by omega) ha] at hP1
  exact kk p l' e R s m args below meth c H1 locs1 cells slots F A X ⟨hP1, hS1⟩ (sw_okH_up hH (by rw [hS]; exact sw_okh hs)) (sw_okt (sw_okt (sw_okt hs))) hL hR hF'
theorem sw_nar8 {z : Int} (hz : -128 ≤ z ∧ z ≤ 127) : vp_nar .byte (Int32.ofInt z) = Int32.ofInt z := by
  have : (Int32.ofInt z).toInt8.toInt32 = Int32.ofInt z := by
    rw [sw_b8_of]
    congr 1
    unfold sw_b8
    omega
  simpa [vp_nar, narrow] using this
theorem sx_bastore {a n : Nat} {i z : Int} (hd : decode M.2.1 pc = .ok (.bastore, 1)) (hS : S a = some (101, [n])) (ha : a < N) (hn : n ≤ 65536) (hi : 0 ≤ i ∧ i < n) (hz : -128 ≤ z ∧ z ≤ 127) (kk : sw_E G N S d M (pc + 1) f st (sw_up h a i.toNat z) Q) : sw_E G N S d M pc f (sw_i z :: sw_i i :: sw_r a :: st) h Q := by
  intro p l' e R s m args below meth c H locs cells slots F A X hW hH hs hL hR hF'
  obtain ⟨hv, he⟩ := sw_in hi.1 hi.2 hn
  have hw := sw_ws_arr (G := G) (h := h) (t := 1) hS (by omega) ha
  refine va_bast X.1 X.2.1 (sw_hK X) hW.1 (sw_D X.2.2.2.2.2.2.2.1) hW.2 a 1 hw rfl hv hd (fun H1 locs1 hP1 _ hS1 => ?_)
  rw [he, sw_nar8 hz, sw_upd_arr (t := 1) hS (by omega) ha] at hP1
  exact kk p l' e R s m args below meth c H1 locs1 cells slots F A X ⟨hP1, hS1⟩ (sw_okH_up hH (by rw [hS]; exact hz)) (sw_okt (sw_okt (sw_okt hs))) hL hR hF'
theorem sx_zastore {a n : Nat} {i z : Int} (hd : decode M.2.1 pc = .ok (.bastore, 1)) (hS : S a = some (102, [n])) (ha : a < N) (hn : n ≤ 65536) (hi : 0 ≤ i ∧ i < n) (hz : z = 0 ∨ z = 1) (kk : sw_E G N S d M (pc + 1) f st (sw_up h a i.toNat z) Q) : sw_E G N S d M pc f (sw_i z :: sw_i i :: sw_r a :: st) h Q := by
  intro p l' e R s m args below meth c H locs cells slots F A X hW hH hs hL hR hF'
  obtain ⟨hv, he⟩ := sw_in hi.1 hi.2 hn
  have hw := sw_ws_arr (G := G) (h := h) (t := 2) hS (by omega) ha
  refine va_zast X.1 X.2.1 (sw_hK X) hW.1 (sw_D X.2.2.2.2.2.2.2.1) hW.2 a 2 hw rfl hv hd (fun H1 locs1 hP1 _ hS1 => ?_)
  have hnz : vp_nar .boolean (Int32.ofInt z) = Int32.ofInt z := by rcases hz with rfl | rfl <;> rfl
  rw [he, hnz, sw_upd_arr (t := 2) hS (by omega) ha] at hP1
  exact kk p l' e R s m args below meth c H1 locs1 cells slots F A X ⟨hP1, hS1⟩ (sw_okH_up hH (by rw [hS]; show 0 ≤ z ∧ z ≤ 1; omega)) (sw_okt (sw_okt (sw_okt hs))) hL hR hF'
theorem sx_lastore {a n : Nat} {i z : Int} (hd : decode M.2.1 pc = .ok (.lastore, 1)) (hS : S a = some (103, [n])) (ha : a < N) (hn : n ≤ 65536) (hi : 0 ≤ i ∧ i < n) (kk : sw_E G N S d M (pc + 1) f st (sw_up h a i.toNat z) Q) : sw_E G N S d M pc f (sw_l z :: sw_i i :: sw_r a :: st) h Q := by
  intro p l' e R s m args below meth c H locs cells slots F A X hW hH hs hL hR hF'
  obtain ⟨hv, he⟩ := sw_in hi.1 hi.2 hn
  have hw := sw_ws_arrL (G := G) (h := h) hS ha
  refine va_last X.1 X.2.1 (sw_hK X) hW.1 (sw_D X.2.2.2.2.2.2.2.1) hW.2 a 3 hw rfl hv hd (fun H1 locs1 hP1 _ hS1 => ?_)
  have hset : (sw_ws G N S h).set a (sw_ad G a, .inl (G.2.2.1 3, n, .inr (.inl (vp_updL (fun i => Int64.ofInt (h a i)) i.toNat (Int64.ofInt z))))) = sw_ws G N S (sw_up h a i.toNat z) := by
    refine sw_ws_set ha ?_ (fun b hb => ?_)
    · have := sw_ws_arrL (G := G) (h := sw_up h a i.toNat z) hS ha
      rw [sw_ws_get ha] at this
      have e := congrArg Prod.snd (Option.some.inj this)
      rw [show sw_ce G (sw_up h a i.toNat z a) (S a) = _ from e]
      congr 5
      funext j
      simp only [vp_updL, sw_up, true_and]
      split <;> rfl
    · funext j
      simp [sw_up, hb]
  rw [he, hset] at hP1
  exact kk p l' e R s m args below meth c H1 locs1 cells slots F A X ⟨hP1, hS1⟩ (sw_okH_up hH (by rw [hS]; exact sw_okh hs)) (sw_okt (sw_okt (sw_okt hs))) hL hR hF'
theorem sx_alen {a n t : Nat} (hd : decode M.2.1 pc = .ok (.arraylength, 1)) (hS : S a = some (100 + t, [n])) (ht : t < 2) (ha : a < N) (hn : n ≤ 65536) (kk : sw_E G N S d M (pc + 1) f (sw_i (n : Int) :: st) h Q) : sw_E G N S d M pc f (sw_r a :: st) h Q := by
  intro p l' e R s m args below meth c H locs cells slots F A X hW hH hs hL hR hF'
  have hw := sw_ws_arr (G := G) (h := h) hS (by omega) ha
  have k1 := kk p l' e R s m args below meth c H locs cells slots F A X hW hH (sw_okc (v := sw_i (n : Int)) (by show sw_ok32 _; unfold sw_ok32; omega) (sw_okt hs)) hL hR hF'
  match t, ht, hw with
  | 0, _, hw => exact va_alen X.1 X.2.1 (sw_hK X) hW.1 a 0 hw (ty := .int) rfl (v := Int32.ofInt (n : Int)) rfl hd k1
  | 1, _, hw => exact va_alen X.1 X.2.1 (sw_hK X) hW.1 a 1 hw (ty := .byte) rfl (v := Int32.ofInt (n : Int)) rfl hd k1
theorem sx_aaload {a n b t : Nat} {i : Int} (hd : decode M.2.1 pc = .ok (.aaload, 1)) (hS : S a = some (105, [n, b, t])) (ha : a < N) (hn : n ≤ 65536) (hi : 0 ≤ i ∧ i < n) (kk : sw_E G N S d M (pc + 1) f (sw_r (b + t * i.toNat) :: st) h Q) : sw_E G N S d M pc f (sw_i i :: sw_r a :: st) h Q := by
  intro p l' e R s m args below meth c H locs cells slots F A X hW hH hs hL hR hF'
  obtain ⟨hv, he⟩ := sw_in hi.1 hi.2 hn
  have hw : (sw_ws G N S h)[a]? = some (sw_ad G a, .inl (G.2.2.1 4, n, .inr (.inr (.inr (.inr (fun i => some (sw_ad G (b + t * i)))))))) := by
    rw [sw_ws_get ha, hS]
    simp [sw_ce]
  refine va_aldq X.1 X.2.1 (sw_hK X) hW.1 a 4 hw rfl hv hd ?_
  rw [he]
  exact kk p l' e R s m args below meth c H locs cells slots F A X hW hH (sw_okc (v := sw_r _) trivial (sw_okt (sw_okt hs))) hL hR hF'
end RULES

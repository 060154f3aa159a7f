-- ===== making: a judgement beside sw_E in which cells come; references lie in the heap as numbers until all is made =====
def S2 : sw_S := fun a => match SH a with
  | none => none
  | some (k, l) => if k < 100 then some (k, l.map (fun c => if c < 2 then c else 2)) else if k = 105 then some (104, l.take 1) else some (k, l)
/-- what lies in a cell that is new -/
def hD : sw_H := fun a k => match S2 a with
  | none => 0
  | some (c, l) => if c < 100 then (if l.getD k 0 = 2 then -1 else 0) else if c = 104 then -1 else 0
def sw_N (ini : Bool) (G : sw_G) (N d : Nat) (M : sw_M) (pc : Nat) (f : sw_L) (st : List sw_V) (h : sw_H) (kc ks : Nat) (Fw : va_W → Prop) : Prop :=
  ∀ (p : Program) (l : Launch) (e : Env) (R : Room) (s : State) (m : MethodId) (args : Array Value) (below : List Frame) (meth : Method) (c : Code) (H : Heap) (locs : List Loc) (cells slots : Nat) (F : State → Prop) (A : Array Slot),
    sw_X G N d p R s m meth c M cells slots → (ini = true → meth.name = "<init>") → cells + kc ≤ R.cells → slots + ks ≤ R.slots → sw_W G N S2 h s H locs → sw_okH S2 h → (∀ a k, N ≤ a → h a k = hD a k) → (∀ v ∈ st, sw_ok v) → (∀ (j : Nat) (v : sw_V), sw_g f j = some v → sw_ok v) → sw_R G A M.2.2.1 f →
    (∀ (pc' : Nat) (A' : Array Slot) (H' : Heap) (locs' : List Loc) (w : va_W), decode M.2.1 pc' = .ok (.return_, 1) → Fw w → va_P G.2.1 vwCl w H' → va_S (sw_B G) s.heap H' locs' →
      W p l e R s m args below meth c H' locs' (cells + kc) (slots + ks) F (F0 m pc' A' [])) →
    W p l e R s m args below meth c H locs cells slots F (F0 m pc A (st.map (sw_v G)))
section NRULES
variable {ini : Bool} {G : sw_G} {N d : Nat} {M : sw_M} {pc : Nat} {f : sw_L} {st : List sw_V} {h : sw_H} {kc ks : Nat} {Fw : va_W → Prop}
theorem sn_go {pc2 : Nat} {st2 : List sw_V} (hok : (∀ v ∈ st, sw_ok v) → (∀ (j : Nat) (v : sw_V), sw_g f j = some v → sw_ok v) → ∀ v ∈ st2, sw_ok v)
    (step : ∀ {p : Program} {l : Launch} {e : Env} {R : Room} {s : State} {m : MethodId} {args : Array Value} {below : List Frame} {meth : Method} {c : Code} {H : Heap} {locs : List Loc} {cells slots : Nat} {F : State → Prop} {A : Array Slot},
      p.tables.exec = Jvm.exec → c.code = M.2.1 → (∀ v ∈ st, sw_ok v) → sw_R G A M.2.2.1 f → W p l e R s m args below meth c H locs cells slots F (F0 m pc2 A (st2.map (sw_v G))) → W p l e R s m args below meth c H locs cells slots F (F0 m pc A (st.map (sw_v G))))
    (k : sw_N ini G N d M pc2 f st2 h kc ks Fw) : sw_N ini G N d M pc f st h kc ks Fw := by
  intro p l e R s m args below meth c H locs cells slots F A X hi h1 h2 hW hH hdf hS hL hR hF
  exact step X.1 X.2.1 hS hR (k p l e R s m args below meth c H locs cells slots F A X hi h1 h2 hW hH hdf (hok hS hL) hL hR hF)
theorem sn_iconst {n : Int} (hd : decode M.2.1 pc = .ok (.iconst n, 1)) (hn : sw_ok32 n) (k : sw_N ini G N d M (pc + 1) f (sw_i n :: st) h kc ks Fw) : sw_N ini G N d M pc f st h kc ks Fw :=
  sn_go (fun hs _ => by simpa using ⟨hn, hs⟩) (fun hx hb _ _ k => lv_iconst hx hb hd rfl k) k
theorem sn_bipush {n : Int} (hd : decode M.2.1 pc = .ok (.bipush n, 2)) (hn : (Int8.ofInt n).toInt32 = Int32.ofInt n ∧ -128 ≤ n ∧ n ≤ 127) (k : sw_N ini G N d M (pc + 2) f (sw_i n :: st) h kc ks Fw) : sw_N ini G N d M pc f st h kc ks Fw :=
  sn_go (fun hs _ => by
    have : sw_ok (sw_i n) := by show sw_ok32 n; unfold sw_ok32; omega
    simpa using ⟨this, hs⟩) (fun hx hb _ _ k => lv_bipush hx hb hd hn.1 k) k
theorem sn_sipush {n : Int} (hd : decode M.2.1 pc = .ok (.sipush n, 3)) (hn : (Int16.ofInt n).toInt32 = Int32.ofInt n ∧ -32768 ≤ n ∧ n ≤ 32767) (k : sw_N ini G N d M (pc + 3) f (sw_i n :: st) h kc ks Fw) : sw_N ini G N d M pc f st h kc ks Fw :=
  sn_go (fun hs _ => by
    have : sw_ok (sw_i n) := by show sw_ok32 n; unfold sw_ok32; omega
    simpa using ⟨this, hs⟩) (fun hx hb _ _ k => lv_sipush hx hb hd hn.1 k) k
theorem sn_iload_n {i : Fin 4} {x : Int} (hd : decode M.2.1 pc = .ok (.iload_n i, 1)) (hl : sw_g f i = some (sw_i x)) (k : sw_N ini G N d M (pc + 1) f (sw_i x :: st) h kc ks Fw) : sw_N ini G N d M pc f st h kc ks Fw :=
  sn_go (fun hs hL => by simpa using ⟨hL _ _ hl, hs⟩) (fun hx hb _ hR k => lv_iload_n hx hb hd rfl (hR.2.2 _ _ hl) k) k
theorem sn_aload_n {i : Fin 4} {x : Nat} (hd : decode M.2.1 pc = .ok (.aload_n i, 1)) (hl : sw_g f i = some (sw_r x)) (k : sw_N ini G N d M (pc + 1) f (sw_r x :: st) h kc ks Fw) : sw_N ini G N d M pc f st h kc ks Fw :=
  sn_go (fun hs hL => by simpa using ⟨hL _ _ hl, hs⟩) (fun hx hb _ hR k => lv_aload_n hx hb hd rfl (hR.2.2 _ _ hl) k) k
theorem sn_dupr {x : Nat} (hd : decode M.2.1 pc = .ok (.dup, 1)) (k : sw_N ini G N d M (pc + 1) f (sw_r x :: sw_r x :: st) h kc ks Fw) : sw_N ini G N d M pc f (sw_r x :: st) h kc ks Fw :=
  sn_go (fun hs _ => by simpa using hs) (fun hx hb hs _ k => lv_dup hx hb hd rfl k) k
theorem sn_goto {off : Int} {tgt : Nat} (hd : decode M.2.1 pc = .ok (.goto off, 3)) (ht : (pc : Int) + off = (tgt : Int)) (k : sw_N ini G N d M tgt f st h kc ks Fw) : sw_N ini G N d M pc f st h kc ks Fw :=
  sn_go (fun hs _ => hs) (fun hx hb _ _ k => lv_goto hx hb hd ht k) k
theorem sn_icmp_ge {x y : Int} {off : Int} {tgt : Nat} (hd : decode M.2.1 pc = .ok (.if_icmp .ge off, 3)) (ht : (pc : Int) + off = (tgt : Int)) (k1 : y ≤ x → sw_N ini G N d M tgt f st h kc ks Fw) (k2 : x < y → sw_N ini G N d M (pc + 3) f st h kc ks Fw) : sw_N ini G N d M pc f (sw_i y :: sw_i x :: st) h kc ks Fw := by
  intro p l e R s m args below meth c H locs cells slots F A X hi h1 h2 hW hH hdf hS hL hR hF
  have ox : sw_ok32 x := (sw_okh (sw_okt hS))
  have oy : sw_ok32 y := sw_okh hS
  exact lv_icmp_ge X.1 X.2.1 hd ht (fun z => k1 ((sw_le oy ox).mp z) p l e R s m args below meth c H locs cells slots F A X hi h1 h2 hW hH hdf (sw_okt (sw_okt hS)) hL hR hF) (fun z => k2 (Int.not_le.mp (fun q => z ((sw_le oy ox).mpr q))) p l e R s m args below meth c H locs cells slots F A X hi h1 h2 hW hH hdf (sw_okt (sw_okt hS)) hL hR hF)
theorem sn_icmp_gt {x y : Int} {off : Int} {tgt : Nat} (hd : decode M.2.1 pc = .ok (.if_icmp .gt off, 3)) (ht : (pc : Int) + off = (tgt : Int)) (k1 : y < x → sw_N ini G N d M tgt f st h kc ks Fw) (k2 : x ≤ y → sw_N ini G N d M (pc + 3) f st h kc ks Fw) : sw_N ini G N d M pc f (sw_i y :: sw_i x :: st) h kc ks Fw := by
  intro p l e R s m args below meth c H locs cells slots F A X hi h1 h2 hW hH hdf hS hL hR hF
  have ox : sw_ok32 x := (sw_okh (sw_okt hS))
  have oy : sw_ok32 y := sw_okh hS
  exact lv_icmp_gt X.1 X.2.1 hd ht (fun z => k1 ((sw_lt oy ox).mp z) p l e R s m args below meth c H locs cells slots F A X hi h1 h2 hW hH hdf (sw_okt (sw_okt hS)) hL hR hF) (fun z => k2 (Int.not_lt.mp (fun q => z ((sw_lt oy ox).mpr q))) p l e R s m args below meth c H locs cells slots F A X hi h1 h2 hW hH hdf (sw_okt (sw_okt hS)) hL hR hF)
theorem sn_istore_n {x : Int} {i : Fin 4} (hd : decode M.2.1 pc = .ok (.istore_n i, 1)) (hi : (i : Nat) < M.2.2.1) (k : sw_N ini G N d M (pc + 1) (sw_s f i (sw_i x)) st h kc ks Fw) : sw_N ini G N d M pc f (sw_i x :: st) h kc ks Fw := by
  intro p l e R s m args below meth c H locs cells slots F A X hn h1 h2 hW hH hdf hS hL hR hF
  refine lv_istore_n X.1 X.2.1 hd rfl hR.has hi rfl (fun A' hA' => k p l e R s m args below meth c H locs cells slots F A' X hn h1 h2 hW hH hdf (sw_okt hS) (fun j w hw => ?_) (sw_R.store (v := sw_i x) hA') hF)
  rcases sw_s_of f i _ j w hw with ⟨-, rfl⟩ | ⟨-, q, -⟩
  · exact sw_okh hS
  · exact hL j w q
theorem sn_astore_n {x : Nat} {i : Fin 4} (hd : decode M.2.1 pc = .ok (.astore_n i, 1)) (hi : (i : Nat) < M.2.2.1) (k : sw_N ini G N d M (pc + 1) (sw_s f i (sw_r x)) st h kc ks Fw) : sw_N ini G N d M pc f (sw_r x :: st) h kc ks Fw := by
  intro p l e R s m args below meth c H locs cells slots F A X hn h1 h2 hW hH hdf hS hL hR hF
  refine lv_astore_n X.1 X.2.1 hd rfl hR.has hi rfl (fun A' hA' => k p l e R s m args below meth c H locs cells slots F A' X hn h1 h2 hW hH hdf (sw_okt hS) (fun j w hw => ?_) (sw_R.store (v := sw_r x) hA') hF)
  rcases sw_s_of f i _ j w hw with ⟨-, rfl⟩ | ⟨-, q, -⟩
  · exact trivial
  · exact hL j w q
theorem sn_iinc {x n : Int} {i : Nat} (hd : decode M.2.1 pc = .ok (.iinc i n, 3)) (hi : i < M.2.2.1) (hl : sw_g f i = some (sw_i x)) (k : sw_N ini G N d M (pc + 3) (sw_s f i (sw_i (sw_w (x + n)))) st h kc ks Fw) : sw_N ini G N d M pc f st h kc ks Fw := by
  intro p l e R s m args below meth c H locs cells slots F A X hn h1 h2 hW hH hdf hS hL hR hF
  have hm : (i, sw_v G (sw_i x)) ∈ sw_as G f := sw_as_mem.mpr ⟨_, hl, rfl⟩
  obtain ⟨kq, hk⟩ := List.getElem?_of_mem hm
  refine lv_iinc (v := Int32.ofInt (sw_w (x + n))) X.1 X.2.1 hd hR.has hk (by rw [sw_ofw, Int32.ofInt_add]) hi rfl (fun A' hA' => k p l e R s m args below meth c H locs cells slots F A' X hn h1 h2 hW hH hdf hS (fun j w hw => ?_) (sw_R.store (v := sw_i (sw_w (x + n))) hA') hF)
  rcases sw_s_of f i _ j w hw with ⟨-, rfl⟩ | ⟨-, q, -⟩
  · exact sw_w_ok _
  · exact hL j w q
theorem sw_Gs {p : Program} {R : Room} {s : State} {m : MethodId} {meth : Method} {c : Code} {cells slots : Nat} (X : sw_X G N d p R s m meth c M cells slots) : G.1.heap.size ≤ s.heap.size := by
  rcases Nat.lt_or_ge s.heap.size G.1.heap.size with q | q
  · have h6 := X.2.2.2.2.2.2.2.2.1 s.heap.size q
    rw [Array.getElem?_eq_none (Nat.le_refl _), Array.getElem?_eq_getElem q] at h6
    cases h6
  · exact q
theorem sw_ws_succ {S : sw_S} : sw_ws G (N + 1) S h = sw_ws G N S h ++ [(sw_ad G N, sw_ce G (h N) (S N))] := by
  unfold sw_ws
  rw [List.range_succ, List.map_append]
  rfl
theorem sw_X_up {p : Program} {R : Room} {s : State} {m : MethodId} {meth : Method} {c : Code} {cells slots k n : Nat} (X : sw_X G N d p R s m meth c M cells slots) (hN : N + k ≤ 100000) (h1 : cells + k ≤ R.cells) (h2 : slots + n ≤ R.slots) : sw_X G (N + k) d p R s m meth c M (cells + k) (slots + n) := by
  obtain ⟨x1, x2, x3, x4, x5, x6, x7, x8, x9, x10, x11, x12, x13, x14⟩ := X
  exact ⟨x1, x2, x3, x4, x5, x6, x7, hN, x9, by omega, x11, x12, h1, h2⟩
/-- a cell comes behind the others -/
theorem sw_W_push {s : State} {H H1 : Heap} {locs : List Loc} (hN : N < 100000) (hGs : G.1.heap.size ≤ s.heap.size) (hsz : H.size = G.1.heap.size + N) (hW : sw_W G N S2 h s H locs) (z1 : H1.size = H.size + 1) (o1 : ∀ q : Nat, q < H.size → H1[q]? = H[q]?) (ha : va_at G.2.1 vwCl (sw_ad G N, sw_ce G (h N) (S2 N)) H1) : sw_W G (N + 1) S2 h s H1 locs := by
  obtain ⟨hP, hS⟩ := hW
  refine ⟨?_, ⟨Nat.le_trans hS.1 (by omega), fun x q1 q2 => (o1 x (Nat.lt_of_lt_of_le q1 hS.1)).trans (hS.2.1 x q1 q2), hS.2.2⟩⟩
  rw [sw_ws_succ]
  refine va_P.app (hP.kept (fun k x hx => o1 x.1 ((hP k x hx).lt))) (fun k x hx => ?_)
  have hz : k < 1 := (List.getElem?_eq_some_iff.mp hx).1
  rw [show k = 0 by omega] at hx
  cases hx
  exact ha
theorem sw_hdf {a : Nat} (hdf : ∀ a k, N ≤ a → h a k = hD a k) (ha : N ≤ a) : h a = hD a := funext (fun k => hdf a k ha)
theorem sn_new {ci n idx : Nat} {C : String} {T : u_T} {ty : Nat → FieldType} {l : List Nat} (hC : sw_C ci C T n ty) (hcl : Cond.classLink M.1.cls idx C ∈ gtb) (hin : Cond.instantiable C n ∈ gtb) (hini : Cond.initialized C ∈ gtb) (hd : decode M.2.1 pc = .ok (.new idx, 3)) (hS : S2 N = some (ci, l)) (hl : ∀ (G : sw_G) (j : Nat), j < n → defaultValue (ty j) = vp_V (sw_fs G (hD N) 0 l) j) (hN : N < 100000)
    (k : sw_N ini G (N + 1) d M (pc + 3) f (sw_r N :: st) h kc ks Fw) : sw_N ini G N d M pc f st h (kc + 1) (ks + n) Fw := by
  intro p l' e R s m args below meth c H locs cells slots F A X hi h1 h2 hW hH hdf hs hL hR hF
  refine sw_size X hW (fun hsz => ?_)
  have hts := sw_hts X args
  obtain ⟨c1, c2, c3, c4, c5⟩ := hC
  have hKn := (sw_hK X).1 ci _ c1
  refine W.newcK (g := F0 m pc A (st.map (sw_v G))) X.1 X.2.1 X.2.2.2.1 (hts _ hcl) (hts _ hin) (hts _ hini) rfl hd (by omega) (by omega) hKn.2.1 rfl (fun H1 kC hkC e1 z1 o1 => ?_)
  have had : sw_ad G N = H.size := by unfold sw_ad; rw [if_pos hN, hsz]
  have hW1 : sw_W G (N + 1) S2 h s H1 locs := by
    refine sw_W_push hN (sw_Gs X) hsz hW z1 o1 ?_
    rw [hS, sw_ce_obj c5, had, sw_hdf hdf (Nat.le_refl N)]
    exact ⟨_, c1, (u_born ty hts c2 hKn hkC e1 c3).to (hl G)⟩
  have e : W p l' e R s m args below meth c H1 locs (cells + 1) (slots + n) F (F0 m (pc + 3) A ((sw_r N :: st).map (sw_v G))) := k p l' e R s m args below meth c H1 locs (cells + 1) (slots + n) F A (sw_X_up (k := 1) X (by omega) (by omega) (by omega)) hi (by omega) (by omega) hW1 hH (fun a k q => hdf a k (by omega)) (fun v hv => by
    rcases List.mem_cons.mp hv with rfl | hv
    · exact trivial
    · exact hs v hv) hL hR (fun pc' A' H' locs' w q1 q2 q3 q4 => by
      have := hF pc' A' H' locs' w q1 q2 q3 q4
      rw [show cells + 1 + kc = cells + (kc + 1) by omega, show slots + n + ks = slots + (ks + n) by omega]
      exact this)
  rw [show (sw_r N :: st).map (sw_v G) = .ref H.size :: st.map (sw_v G) by rw [List.map_cons]; show Value.ref (sw_ad G N) :: _ = _; rw [had]] at e
  exact e
theorem sn_newa {atype : ArrayType} {t n : Nat} {a0 : vp_A} (ht : (sw_ty G)[t]? = some (G.2.2.1 t, newarray.typeOf atype)) (hra : ∀ (U : State) (cA : ClassId), va_RA U cA (newarray.typeOf atype) → U.vm.findClass ("[" ++ (newarray.typeOf atype).toString) = some cA) (harr : Cond.arrayClass (newarray.typeOf atype) ∈ gtb) (hd : decode M.2.1 pc = .ok (.newarray atype, 2)) (hce : sw_ce G (hD N) (S2 N) = .inl (G.2.2.1 t, a0)) (ha : ∀ cA : ClassId, vp_cell cA a0 = arrV cA n (fun _ => defaultValue (newarray.typeOf atype))) (hn : n ≤ 65536) (hbytes : n * componentBytes (newarray.typeOf atype) ≤ 536870912) (hN : N < 100000)
    (k : sw_N ini G (N + 1) d M (pc + 2) f (sw_r N :: st) h kc ks Fw) : sw_N ini G N d M pc f (sw_i (n : Int) :: st) h (kc + 1) (ks + n) Fw := by
  intro p l' e R s m args below meth c H locs cells slots F A X hi h1 h2 hW hH hdf hs hL hR hF
  refine sw_size X hW (fun hsz => ?_)
  have hts := sw_hts X args
  have hok : sw_ok32 (n : Int) := by unfold sw_ok32; omega
  have h0 : ¬ Int32.ofInt (n : Int) < 0 := by
    rw [show (0 : Int32) = Int32.ofInt 0 from rfl, sw_lt hok (by unfold sw_ok32; omega)]
    omega
  have hcl : (Int32.ofInt (n : Int)).toNatClampNeg = n := by
    show (Int32.ofInt (n : Int)).toInt.toNat = n
    rw [sw_ti hok]
    omega
  refine va_newaK (g := F0 m pc A ((sw_i (n : Int) :: st).map (sw_v G))) X.1 X.2.1 (hts _ harr) rfl hd rfl h0 hcl hbytes (by omega) (by omega) rfl (fun H1 cA e1 z1 o1 hAr hNm => ?_)
  have had : sw_ad G N = H.size := by unfold sw_ad; rw [if_pos hN, hsz]
  have hcA : cA = G.2.2.1 t := Option.some.inj (hNm.symm.trans (hra s _ ((sw_hK X).2 t _ ht).2))
  have hW1 : sw_W G (N + 1) S2 h s H1 locs := by
    refine sw_W_push hN (sw_Gs X) hsz hW z1 o1 ?_
    rw [had, sw_hdf hdf (Nat.le_refl N), hce]
    show H1[H.size]? = some (vp_cell _ _)
    rw [ha, ← hcA]
    exact e1
  have e : W p l' e R s m args below meth c H1 locs (cells + 1) (slots + n) F (F0 m (pc + 2) A ((sw_r N :: st).map (sw_v G))) := k p l' e R s m args below meth c H1 locs (cells + 1) (slots + n) F A (sw_X_up (k := 1) X (by omega) (by omega) (by omega)) hi (by omega) (by omega) hW1 hH (fun a k q => hdf a k (by omega)) (fun v hv => by
    rcases List.mem_cons.mp hv with rfl | hv
    · exact trivial
    · exact hs v (List.mem_cons_of_mem _ hv)) hL hR (fun pc' A' H' locs' w q1 q2 q3 q4 => by
      have := hF pc' A' H' locs' w q1 q2 q3 q4
      rw [show cells + 1 + kc = cells + (kc + 1) by omega, show slots + n + ks = slots + (ks + n) by omega]
      exact this)
  rw [show (sw_r N :: st).map (sw_v G) = .ref H.size :: st.map (sw_v G) by rw [List.map_cons]; show Value.ref (sw_ad G N) :: _ = _; rw [had]] at e
  exact e
theorem sn_put {ci n a k code idx : Nat} {C : String} {T : u_T} {ty : Nat → FieldType} {l : List Nat} {v : sw_V} {z : Int} (hC : sw_C ci C T n ty) (hF : Cond.fieldLink M.1.cls idx (T k).1 (T k).2.1 (T k).2.2.1 ∈ gtb) (hd : decode M.2.1 pc = .ok (.putfield idx, 3)) (hS : S2 a = some (ci, l)) (ha : a < N) (hk : l[k]? = some code) (hn : k < n)
    (hfin : (T k).2.2.2 = false ∨ ((T k).2.2.2 = true ∧ ini = true ∧ (T k).1 = M.1.cls)) (hv : sw_sv G code z = sw_v G v) (hna : narrow (ty k) (sw_v G v) = sw_v G v) (hfit : fits (ty k) (sw_v G v) = true) (hok : sw_ok v → sw_okz (S2 a) k z)
    (kk : sw_N ini G N d M (pc + 3) f st (sw_up h a k z) kc ks Fw) : sw_N ini G N d M pc f (v :: sw_r a :: st) h kc ks Fw := by
  intro p l' e R s m args below meth c H locs cells slots F A X hi h1 h2 hW hH hdf hs hL hR hF'
  obtain ⟨c1, c2, c3, c4, c5⟩ := hC
  have he : (sw_ws G N S2 h)[a]? = some (sw_ad G a, .inr (ci, sw_fs G (h a) 0 l)) := by rw [sw_ws_get ha, hS, sw_ce_obj c5]
  have hts := sw_hts X args
  have hN : N ≤ 100000 := X.2.2.2.2.2.2.2.1
  obtain ⟨hP, hSS⟩ := hW
  have hset : (sw_ws G N S2 h).set a (sw_ad G a, .inr (ci, (sw_fs G (h a) 0 l).set k (sw_v G v))) = sw_ws G N S2 (sw_up h a k z) := by
    refine sw_ws_set ha ?_ (fun b hb => ?_)
    · rw [hS, sw_ce_obj c5, ← hv, sw_fs_set G (h a) z l 0 k code hk]
      rw [sw_fs_congr G (g' := sw_up h a k z a) l 0 (fun j _ => by simp [sw_up])]
    · funext j
      simp [sw_up, hb]
  have go : ∀ (H1 : Heap) (locs1 : List Loc), va_P G.2.1 vwCl ((sw_ws G N S2 h).set a (sw_ad G a, .inr (ci, (sw_fs G (h a) 0 l).set k (sw_v G v)))) H1 → va_D (sw_B G) ((sw_ws G N S2 h).set a (sw_ad G a, .inr (ci, (sw_fs G (h a) 0 l).set k (sw_v G v)))) → va_S (sw_B G) s.heap H1 locs1 → W p l' e R s m args below meth c H1 locs1 cells slots F (F0 m (pc + 3) A (st.map (sw_v G))) := by
    intro H1 locs1 hP1 _ hS1
    rw [hset] at hP1
    exact kk p l' e R s m args below meth c H1 locs1 cells slots F A X hi h1 h2 ⟨hP1, hS1⟩ (sw_okH_up hH (hok (sw_okh hs))) (fun b j q => by
      have : ¬ (b = a ∧ j = k) := by omega
      show sw_up h a k z b j = _
      unfold sw_up
      rw [if_neg this]
      exact hdf b j q) (sw_okt (sw_okt hs)) hL hR hF'
  rcases hfin with hfin | ⟨hfin, hini, hdc⟩
  · exact va_put (ci := ci) (C := C) (T := T) (N := n) (ref := (T k).1) X.1 X.2.1 hts c2 ty c3 c4 X.2.2.2.1 (sw_hK X) hP (sw_D hN) hSS a he c1 k hn (hts _ hF) (fun _ q => q) hfin (v := sw_v G v) (c3 k hn) hna hfit (by rw [sw_fs_len]; exact (List.getElem?_eq_some_iff.mp hk).1) hd go
  · exact va_putF (ci := ci) (C := C) (T := T) (N := n) (ref := (T k).1) X.1 X.2.1 hts c2 ty c3 c4 X.2.2.2.1 (sw_hK X) hP (sw_D hN) hSS a he c1 k hn (hts _ hF) (fun _ q => q) hfin (hi hini) hdc (v := sw_v G v) (c3 k hn) hna hfit (by rw [sw_fs_len]; exact (List.getElem?_eq_some_iff.mp hk).1) hd go
theorem sn_putI {ci n a k idx : Nat} {C : String} {T : u_T} {ty : Nat → FieldType} {l : List Nat} {z : Int} (hC : sw_C ci C T n ty) (hF : Cond.fieldLink M.1.cls idx (T k).1 (T k).2.1 (T k).2.2.1 ∈ gtb) (hd : decode M.2.1 pc = .ok (.putfield idx, 3)) (hS : S2 a = some (ci, l)) (ha : a < N) (hk : l[k]? = some 0) (hn : k < n)
    (hfin : (T k).2.2.2 = false ∨ ((T k).2.2.2 = true ∧ ini = true ∧ (T k).1 = M.1.cls)) (hty : ty k = .int) (kk : sw_N ini G N d M (pc + 3) f st (sw_up h a k z) kc ks Fw) : sw_N ini G N d M pc f (sw_i z :: sw_r a :: st) h kc ks Fw :=
  sn_put (v := sw_i z) (z := z) hC hF hd hS ha hk hn hfin rfl (by rw [hty]; rfl) (by rw [hty]; rfl) (fun o => by rw [hS, sw_okz_obj hC.2.2.2.2 hk]; exact o) kk
theorem sn_putR {ci n a k idx t : Nat} {C : String} {T : u_T} {ty : Nat → FieldType} {l : List Nat} (hC : sw_C ci C T n ty) (hF : Cond.fieldLink M.1.cls idx (T k).1 (T k).2.1 (T k).2.2.1 ∈ gtb) (hd : decode M.2.1 pc = .ok (.putfield idx, 3)) (hS : S2 a = some (ci, l)) (ha : a < N) (hk : l[k]? = some 2) (hn : k < n)
    (hfin : (T k).2.2.2 = false ∨ ((T k).2.2.2 = true ∧ ini = true ∧ (T k).1 = M.1.cls)) (hty : (∃ o, ty k = .object o) ∨ ∃ o, ty k = .array o) (ht : t ≤ 100000) (kk : sw_N ini G N d M (pc + 3) f st (sw_up h a k (t : Int)) kc ks Fw) : sw_N ini G N d M pc f (sw_r t :: sw_r a :: st) h kc ks Fw :=
  sn_put (v := sw_r t) (z := (t : Int)) hC hF hd hS ha hk hn hfin (by simp only [sw_sv, sw_v]; rw [if_neg (by omega), Int.toNat_natCast]) (by rcases hty with ⟨o, e⟩ | ⟨o, e⟩ <;> (rw [e]; rfl)) (by rcases hty with ⟨o, e⟩ | ⟨o, e⟩ <;> (rw [e]; rfl)) (fun _ => by rw [hS, sw_okz_obj hC.2.2.2.2 hk]; show sw_ok32 _; unfold sw_ok32; omega) kk
theorem sn_getR {ci n a k idx : Nat} {C : String} {T : u_T} {ty : Nat → FieldType} {l : List Nat} {t : Nat} (hC : sw_C ci C T n ty) (hF : Cond.fieldLink M.1.cls idx (T k).1 (T k).2.1 (T k).2.2.1 ∈ gtb) (hd : decode M.2.1 pc = .ok (.getfield idx, 3)) (hS : S2 a = some (ci, l)) (ha : a < N) (hk : l[k]? = some 2) (hn : k < n) (ht : h a k = (t : Int))
    (kk : sw_N ini G N d M (pc + 3) f (sw_r t :: st) h kc ks Fw) : sw_N ini G N d M pc f (sw_r a :: st) h kc ks Fw := by
  intro p l' e R s m args below meth c H locs cells slots F A X hi h1 h2 hW hH hdf hs hL hR hF'
  obtain ⟨c1, c2, c3, c4, c5⟩ := hC
  have he : (sw_ws G N S2 h)[a]? = some (sw_ad G a, .inr (ci, sw_fs G (h a) 0 l)) := by rw [sw_ws_get ha, hS, sw_ce_obj c5]
  have hts := sw_hts X args
  refine va_get (ci := ci) (C := C) (T := T) (N := n) (ref := (T k).1) X.1 X.2.1 hts c2 X.2.2.2.1 (sw_hK X) hW.1 a he c1 k hn (hts _ hF) (fun _ q => q) (v := sw_v G (sw_r t)) ?_ hd ?_
  · rw [sw_fs_get G (h a) l 0 k 2 hk, Nat.zero_add, ht]
    simp only [sw_sv, sw_v]
    rw [if_neg (by omega), Int.toNat_natCast]
  · exact kk p l' e R s m args below meth c H locs cells slots F A X hi h1 h2 hW hH hdf (fun v hv => by
      rcases List.mem_cons.mp hv with rfl | hv
      · exact trivial
      · exact sw_okt hs v hv) hL hR hF'
theorem sn_obj {idx a : Nat} (hl : Cond.methodLink M.1.cls idx Lib.objectInit ∈ gtb) (hin : Cond.instanceMethod Lib.objectInit ∈ gtb) (hco : Cond.code Lib.objectInit ⟨#[0xb1]⟩ 1 none ∈ gtb) (hd : decode M.2.1 pc = .ok (.invokespecial idx, 3)) (hcat : ((st.map (sw_v G)).map fun v => v.category).sum ≤ 8)
    (k : sw_N ini G N (d + 1) M (pc + 3) f st h kc ks Fw) : sw_N ini G N (d + 1) M pc f (sw_r a :: st) h kc ks Fw := by
  intro p l' e R s m args below meth c H locs cells slots F A X hi h1 h2 hW hH hdf hs hL hR hF'
  have hts := sw_hts X args
  have x11 : d + 1 ≤ R.frames := X.2.2.2.2.2.2.2.2.2.2.1
  have x12 : 64 * (d + 1) ≤ R.locals := X.2.2.2.2.2.2.2.2.2.2.2.1
  have hro := lv_room (m := m) (pc := pc) (ls := A) (rest := (sw_r a :: st).map (sw_v G)) hcat
  refine W.objInit (g := F0 m pc A ((sw_r a :: st).map (sw_v G))) X.1 X.2.1 X.2.2.2.1 (hts _ hl) (hts _ hin) (hts _ hco) rfl (by rw [X.2.2.1]; exact hR.1) (a := sw_ad G a) (rest := st.map (sw_v G)) rfl hd (by omega) (by omega) ?_
  exact k p l' e R s m args below meth c H locs cells slots F A X hi h1 h2 hW hH hdf (sw_okt hs) hL hR hF'
theorem sn_ret {w : va_W} (hd : decode M.2.1 pc = .ok (.return_, 1)) (hw : w = sw_ws G N S2 h) (hf : sw_okH S2 h → (∀ a k, N ≤ a → h a k = hD a k) → Fw w) : sw_N ini G N d M pc f [] h 0 0 Fw := by
  intro p l' e R s m args below meth c H locs cells slots F A X hi h1 h2 hW hH hdf hs hL hR hF'
  exact hF' pc A H locs w hd (hf hH hdf) (by rw [hw]; exact hW.1) hW.2
/-- an array of references comes -/
theorem sn_anew {idx n : Nat} {C : String} {a0 : vp_A} (ht : (sw_ty G)[4]? = some (G.2.2.1 4, .object C)) (hcl : Cond.classLink M.1.cls idx C ∈ gtb) (hov : Cond.arrayOver (.object C) ∈ lw_tbl) (hd : decode M.2.1 pc = .ok (.anewarray idx, 3)) (hce : sw_ce G (hD N) (S2 N) = .inl (G.2.2.1 4, a0)) (ha : ∀ cA : ClassId, vp_cell cA a0 = arrV cA n (fun _ => .null)) (hn : n ≤ 65536) (hN : N < 100000)
    (k : sw_N ini G (N + 1) d M (pc + 3) f (sw_r N :: st) h kc ks Fw) : sw_N ini G N d M pc f (sw_i (n : Int) :: st) h (kc + 1) (ks + n) Fw := by
  intro p l' e R s m args below meth c H locs cells slots F A X hi h1 h2 hW hH hdf hs hL hR hF
  refine sw_size X hW (fun hsz => ?_)
  have hts := sw_hts X args
  have hok : sw_ok32 (n : Int) := by unfold sw_ok32; omega
  have h0 : ¬ Int32.ofInt (n : Int) < 0 := by
    rw [show (0 : Int32) = Int32.ofInt 0 from rfl, sw_lt hok (by unfold sw_ok32; omega)]
    omega
  have hcln : (Int32.ofInt (n : Int)).toNatClampNeg = n := by
    show (Int32.ofInt (n : Int)).toInt.toNat = n
    rw [sw_ti hok]
    omega
  have hAO : va_AO C s := by
    obtain ⟨-, -, -, -, -, hWm, ⟨⟨A0, hA⟩, -⟩, -⟩ := X
    exact va_AO.moved hWm.alike (va_AO.of (hA _ hov))
  refine W.anew (g := F0 m pc A ((sw_i (n : Int) :: st).map (sw_v G))) X.1 X.2.1 X.2.2.2.1 (hts _ hcl) (va_AO.use hAO) rfl hd rfl h0 (by rw [hcln]; omega) (by omega) (by rw [hcln]; omega) (fun cA kA comp f1 f2 f3 f4 => ?_)
  generalize hH1 : H.push ({ cls := cA, slots := Array.replicate (Int32.ofInt (n : Int)).toNatClampNeg .null, vm := .none } : Cell) = H1
  have z1 : H1.size = H.size + 1 := by rw [← hH1, Array.size_push]
  have e1 : H1[H.size]? = some (arrV cA n (fun _ => .null)) := by rw [← hH1, Array.getElem?_push_size, ← arrV_new, hcln]
  have o1 : ∀ q : Nat, q < H.size → H1[q]? = H[q]? := fun q hq => by rw [← hH1, Array.getElem?_push, if_neg (Nat.ne_of_lt hq)]
  have had : sw_ad G N = H.size := by unfold sw_ad; rw [if_pos hN, hsz]
  have hcA : cA = G.2.2.1 4 := by
    obtain ⟨kA', comp', g1, g2, g3, g4⟩ := ((sw_hK X).2 4 _ ht).2
    exact Option.some.inj (f1.symm.trans g4)
  have hW1 : sw_W G (N + 1) S2 h s H1 locs := by
    refine sw_W_push hN (sw_Gs X) hsz hW z1 o1 ?_
    rw [had, sw_hdf hdf (Nat.le_refl N), hce]
    show H1[H.size]? = some (vp_cell _ _)
    rw [ha, ← hcA]
    exact e1
  rw [hcln]
  have e : W p l' e R s m args below meth c H1 locs (cells + 1) (slots + n) F (F0 m (pc + 3) A ((sw_r N :: st).map (sw_v G))) := k p l' e R s m args below meth c H1 locs (cells + 1) (slots + n) F A (sw_X_up (k := 1) X (by omega) (by omega) (by omega)) hi (by omega) (by omega) hW1 hH (fun a k q => hdf a k (by omega)) (fun v hv => by
    rcases List.mem_cons.mp hv with rfl | hv
    · exact trivial
    · exact hs v (List.mem_cons_of_mem _ hv)) hL hR (fun pc' A' H' locs' w q1 q2 q3 q4 => by
      have := hF pc' A' H' locs' w q1 q2 q3 q4
      rw [show cells + 1 + kc = cells + (kc + 1) by omega, show slots + n + ks = slots + (ks + n) by omega]
      exact this)
  rw [show (sw_r N :: st).map (sw_v G) = .ref H.size :: st.map (sw_v G) by rw [List.map_cons]; show Value.ref (sw_ad G N) :: _ = _; rw [had]] at e
  exact e
/-- a reference is laid into an array -/
theorem sn_aast {a b n ci nn : Nat} {C : String} {T : u_T} {ty : Nat → FieldType} {l : List Nat} {i : Int} (hC : sw_C ci C T nn ty) (ht : (sw_ty G)[4]? = some (G.2.2.1 4, .object C)) (hd : decode M.2.1 pc = .ok (.aastore, 1)) (hS : S2 a = some (104, [n])) (ha : a < N) (hSb : S2 b = some (ci, l)) (hb : b < N) (hn : n ≤ 65536) (hi : 0 ≤ i ∧ i < n) (hb2 : b ≤ 100000)
    (kk : sw_N ini G N d M (pc + 1) f st (sw_up h a i.toNat (b : Int)) kc ks Fw) : sw_N ini G N d M pc f (sw_r b :: sw_i i :: sw_r a :: st) h kc ks Fw := by
  intro p l' e R s m args below meth c H locs cells slots F A X hii h1 h2 hW hH hdf hs hL hR hF'
  obtain ⟨hv, he⟩ := sw_in hi.1 hi.2 hn
  have hN : N ≤ 100000 := X.2.2.2.2.2.2.2.1
  obtain ⟨c1, c2, c3, c4, c5⟩ := hC
  have hwa : (sw_ws G N S2 h)[a]? = some (sw_ad G a, .inl (G.2.2.1 4, n, .inr (.inr (.inr (.inr (fun i => if h a i < 0 then none else some (sw_ad G (h a i).toNat))))))) := by
    rw [sw_ws_get ha, hS]
    simp [sw_ce]
  have hwb : (sw_ws G N S2 h)[b]? = some (sw_ad G b, .inr (ci, sw_fs G (h b) 0 l)) := by rw [sw_ws_get hb, hSb, sw_ce_obj c5]
  obtain ⟨hP, hSS⟩ := hW
  refine va_astq X.1 X.2.1 (sw_hK X) hP (sw_D hN) hSS a 4 b ci (r := (C, T, nn)) hwa ht hwb c1 hv hd (fun H1 locs1 hP1 _ hS1 => ?_)
  have hset : (sw_ws G N S2 h).set a (sw_ad G a, .inl (G.2.2.1 4, n, .inr (.inr (.inr (.inr (va_up (fun i => if h a i < 0 then none else some (sw_ad G (h a i).toNat)) (Int32.ofInt i).toNatClampNeg (some (sw_ad G b)))))))) = sw_ws G N S2 (sw_up h a i.toNat (b : Int)) := by
    refine sw_ws_set ha ?_ (fun b hb => ?_)
    · rw [hS, he]
      simp only [sw_ce]
      simp
      funext j
      by_cases q : j = i.toNat
      · subst q
        simp [va_up, sw_up]
      · simp [va_up, sw_up, q]
    · funext j
      simp [sw_up, hb]
  rw [hset] at hP1
  exact kk p l' e R s m args below meth c H1 locs1 cells slots F A X hii h1 h2 ⟨hP1, hS1⟩ (sw_okH_up hH (by rw [hS]; show sw_ok32 _; unfold sw_ok32; omega)) (fun b' j q => by
      have : ¬ (b' = a ∧ j = i.toNat) := by omega
      show sw_up h a i.toNat (b : Int) b' j = _
      unfold sw_up
      rw [if_neg this]
      exact hdf b' j q) (sw_okt (sw_okt (sw_okt hs))) hL hR hF'
/-- what a constructor leaves -/
def sw_Qn (G : sw_G) (Fw : va_W → Prop) : Array Value → State → Outcome → State → Prop := fun _ st o t => o = .returned none ∧ (∃ w, Fw w ∧ va_P G.2.1 vwCl w t.heap) ∧ va_F (sw_B G) st t
theorem sn_met {vs : List sw_V} (l : Launch) (hg : sw_Gf G) (hN : N ≤ 100000) (hH : sw_okH S2 h) (hdf : ∀ a k, N ≤ a → h a k = hD a k) (hv : ∀ v ∈ vs, sw_ok v) (hp : plainName M.1.cls = true) (hnm : ini = true → M.1.name = "<init>") (hl : (lg_sl (vs.map (sw_v G))).length ≤ M.2.2.1) (hrt : M.2.2.2 = none)
    (k : sw_N ini G N d M 0 (sw_pad (sw_en vs) M.2.2.1) [] h kc ks Fw) : Met l M.1 [.code M.1 M.2.1 M.2.2.1 M.2.2.2] { frames := d, cells := kc, slots := ks, locals := 64 * d } (sw_Pc G N S2 h vs) (sw_Qn G Fw) kc ks (sw_B G) := by
  refine Met.ofW (cc := M.2.1) (maxL := M.2.2.1) (ret := M.2.2.2) hp rfl ?_
  intro p e s m args below meth c s₁ B hml hPc
  obtain ⟨rfl, hW, hP, hold, hsz⟩ := hPc
  have hx := B.exec
  have hb := B.bytes
  have hr := B.returns
  have hlocks := B.notSynchronized
  have hown : s.vm.findClass M.1.cls = some m.cls := findClass_of_methodNamed B.named
  have hname : meth.name = M.1.name := (name_of_methodNamed B.named B.method).1
  have hent := lv_entry (vs.map (sw_v G)) (n := M.2.2.1) hl
  rw [lg_entry_eq]
  generalize (lg_sl (vs.map (sw_v G)) ++ List.replicate (M.2.2.1 - (lg_sl (vs.map (sw_v G))).length) Slot.unset).toArray = A at hent ⊢
  have hX : sw_X G N d p (headSpec [.code M.1 M.2.1 M.2.2.1 M.2.2.2] { frames := d, cells := kc, slots := ks, locals := 64 * d }).room s m meth c M 0 0 := ⟨hx, hb, hml, hown, hlocks, hW, hg, hN, hold, by omega, Nat.le_refl _, Nat.le_refl _, Nat.zero_le _, Nat.zero_le _⟩
  refine k p l e _ s m _ below meth c s.heap [] 0 0 _ A hX (fun q => hname.trans (hnm q)) (by rw [Nat.zero_add]; exact Nat.le_refl _) (by rw [Nat.zero_add]; exact Nat.le_refl _) ⟨hP, va_S.rf⟩ hH hdf (fun v hv => by simp at hv) (fun j v hj => sw_en_ok vs j v hv (by rw [sw_pad_g] at hj; exact hj)) ⟨hent.1, hent.2.1, fun j v hj => ?_⟩ ?_
  · rw [sw_pad_g] at hj
    have := sw_en_at G vs 0 j v hj
    rw [Nat.zero_add] at this
    exact hent.2.2 _ this
  · intro pc' A' H' locs' w hd hq hP' hS'
    rw [Nat.zero_add, Nat.zero_add]
    exact W.vret hx hb (hr.trans hrt) (fun t ht _ => ⟨rfl, ⟨w, hq, by rw [ht]; exact hP'⟩, hS'.F ht⟩) hS'.2.2 hd
/-- behind a constructor's call -/
theorem sn_back {p : Program} {l : Launch} {e : Env} {R : Room} {s : State} {m : MethodId} {args : Array Value} {below : List Frame} {meth : Method} {c : Code} {H : Heap} {locs : List Loc} {cells slots mc ms : Nat} {F : State → Prop} {A : Array Slot} {sv : List Value} {aa : Array Value} (hS : va_S (sw_B G) s.heap H locs)
    (hrun : va_Run p l e R s m args below meth c H locs cells slots mc ms (F0 m pc A sv) (st.map (sw_v G)) (sw_Qn G Fw aa) (sw_B G))
    (kk : ∀ (w : va_W) (H1 : Heap) (locs1 : List Loc), Fw w → va_P G.2.1 vwCl w H1 → va_S (sw_B G) s.heap H1 locs1 → W p l e R s m args below meth c H1 locs1 (cells + mc) (slots + ms) F (F0 m (pc + 3) A (st.map (sw_v G)))) :
    W p l e R s m args below meth c H locs cells slots F (F0 m pc A sv) := by
  intro T hT Y
  obtain ⟨v, st₀, t, T', L, h0, Y', hL, e1, e2, ⟨hv, ⟨w, hq, hP'⟩, hz, hk⟩, stp⟩ := hrun T hT Y
  have hv' : v = none := by cases hv; rfl
  subst hv'
  rw [h0] at hz hk
  have hS1 : va_S (sw_B G) s.heap T'.heap (locs ++ L) := ⟨Nat.le_trans hS.1 (by rw [e1]; exact hz), fun q h1 h2 => by rw [e1, hk q (Nat.lt_of_lt_of_le h1 hS.1) h2]; exact hS.2.1 q h1 h2, fun q hq => by
      rcases List.mem_append.mp hq with z | z
      · exact hS.2.2 q z
      · exact hL q z⟩
  obtain ⟨t2, a1, b1⟩ := kk w T'.heap (locs ++ L) hq (by rw [e1]; exact hP') hS1 T' rfl Y'
  exact ⟨t2, stp t2 a1, b1⟩
/-- what the tables say at a constructor's call -/
def sw_LI (own : String) (idx : Nat) (M : sw_M) (host : String) : Prop := (Cond.methodLink own idx M.1 ∈ gtb ∨ Cond.methodLinkNest own idx M.1 host ∈ lw_tbl) ∧ Cond.instanceMethod M.1 ∈ gtb ∧ Cond.initialized M.1.cls ∈ gtb ∧ Cond.code M.1 M.2.1 M.2.2.1 M.2.2.2 ∈ gtb ∧ sw_hd M 0 ∧ M.1.name = "<init>" ∧ M.2.2.2 = none
/-- a constructor is called: whatever it leaves -/
theorem sn_ctor {M2 : sw_M} {idx o kc2 ks2 : Nat} {host : String} {Fw2 : va_W → Prop} (hl : sw_LI M.1.cls idx M2 host) (hd : decode M.2.1 pc = .ok (.invokespecial idx, 3)) (hcat : ((st.map (sw_v G)).map fun v => v.category).sum ≤ 8) (hfit : 1 ≤ M2.2.2.1)
    (hc : sw_N true G N d M2 0 (sw_pad (sw_en [sw_r o]) M2.2.2.1) [] h kc2 ks2 Fw2)
    {p : Program} {l' : Launch} {e : Env} {R : Room} {s : State} {m : MethodId} {args : Array Value} {below : List Frame} {meth : Method} {c : Code} {H : Heap} {locs : List Loc} {cells slots : Nat} {F : State → Prop} {A : Array Slot} (X : sw_X G N (d + 1) p R s m meth c M cells slots) (h1 : cells + kc2 ≤ R.cells) (h2 : slots + ks2 ≤ R.slots) (hW : sw_W G N S2 h s H locs) (hH : sw_okH S2 h) (hdf : ∀ a k, N ≤ a → h a k = hD a k) (hR : sw_R G A M.2.2.1 f)
    (kk : ∀ (w : va_W) (H1 : Heap) (locs1 : List Loc), Fw2 w → va_P G.2.1 vwCl w H1 → va_S (sw_B G) s.heap H1 locs1 → W p l' e R s m args below meth c H1 locs1 (cells + kc2) (slots + ks2) F (F0 m (pc + 3) A (st.map (sw_v G)))) :
    W p l' e R s m args below meth c H locs cells slots F (F0 m pc A ((sw_r o :: st).map (sw_v G))) := by
  refine sw_size X hW (fun hsz => ?_)
  have hts := sw_hts X args
  obtain ⟨x1, x2, x3, x4, x5, x6, x7, x8, x9, x10, x11, x12, x13, x14⟩ := id X
  obtain ⟨l1, l2, l4, l5, ⟨⟨l6, l7, l8⟩, l9, l10⟩, l11, l12⟩ := hl
  have hM := sn_met (vs := [sw_r o]) l' x7 x8 hH hdf (fun v hv => by rw [List.mem_singleton.mp hv]; exact trivial) l9 (fun _ => l11) hfit l12 hc
  have hpre : ∀ U : State, U.heap = H → s.WarmedH U.vm → sw_Pc G N S2 h [sw_r o] ([sw_r o].map (sw_v G)).toArray U := fun U hU hUW => ⟨rfl, State.WarmedH.trans x6 hUW, by rw [hU]; exact hW.1, fun q hq => by
    rw [hU, hW.2.2.1 q (by
      rcases Nat.lt_or_ge q s.heap.size with z | z
      · exact z
      · have h6 := x9 q hq
        rw [Array.getElem?_eq_none z, Array.getElem?_eq_getElem hq] at h6
        cases h6) (fun z : G.1.heap.size ≤ q => by omega)]
    exact x9 q hq, by rw [hU]; exact hsz⟩
  have hroom : ({ frames := d, cells := kc2, slots := ks2, locals := 64 * d } : Room).frames + 1 ≤ R.frames ∧ 8 + (M2.2.2.1 + 11) + ({ frames := d, cells := kc2, slots := ks2, locals := 64 * d } : Room).locals ≤ R.locals := ⟨x11, by show 8 + (M2.2.2.1 + 11) + 64 * d ≤ _; omega⟩
  rw [l12] at l5 hM
  rcases l1 with l1 | l1
  · have hrun := va_runI (b := sw_ad G o) (As := []) (rest := st.map (sw_v G)) (g := F0 m pc A ((sw_r o :: st).map (sw_v G))) (locs := locs) (e := e) (below := below) (meth := meth) (cells := cells) (slots := slots) ⟨x1, x2, x3, x4, hts⟩ hM ⟨callB_of 0 hts (sw_good1 l5) rfl rfl rfl (hts _ l4) (hts _ l1) ⟨l6, l7, l8⟩ hroom, l11, hts _ l2⟩ ⟨sw_blind, hpre⟩ rfl rfl hR.1 rfl (lv_room (m := m) (pc := pc) (ls := A) (rest := []) hcat) hd ⟨h1, h2⟩
    exact sn_back hW.2 hrun kk
  · have hrun := va_runIN (b := sw_ad G o) (As := []) (rest := st.map (sw_v G)) (g := F0 m pc A ((sw_r o :: st).map (sw_v G))) (locs := locs) (e := e) (below := below) (meth := meth) (cells := cells) (slots := slots) ⟨x1, x2, x3, x4, hts⟩ hM ⟨va_cnB 0 hts (sw_good1 l5) rfl rfl rfl (sw_nestM X l1) (hts _ l4) ⟨l6, l7, l8⟩ hroom, l11, hts _ l2⟩ ⟨sw_blind, hpre⟩ rfl rfl hR.1 rfl (lv_room (m := m) (pc := pc) (ls := A) (rest := []) hcat) hd ⟨h1, h2⟩
    exact sn_back hW.2 hrun kk
/-- the exact end of a constructor: the cells that it makes, what lies in them -/
def sw_Fx (G : sw_G) (N2 : Nat) (h2 : sw_H) : va_W → Prop := fun w => w = sw_ws G N2 S2 h2 ∧ sw_okH S2 h2 ∧ ∀ a k, N2 ≤ a → h2 a k = hD a k
theorem sn_callI {M2 : sw_M} {idx o kc2 ks2 : Nat} {host : String} {h2 : sw_H} (hl : sw_LI M.1.cls idx M2 host) (hd : decode M.2.1 pc = .ok (.invokespecial idx, 3)) (hcat : ((st.map (sw_v G)).map fun v => v.category).sum ≤ 8) (hfit : 1 ≤ M2.2.2.1) (hN2 : N + kc2 ≤ 100000)
    (hc : sw_N true G N d M2 0 (sw_pad (sw_en [sw_r o]) M2.2.2.1) [] h kc2 ks2 (sw_Fx G (N + kc2) h2)) (k : sw_N ini G (N + kc2) (d + 1) M (pc + 3) f st h2 kc ks Fw) : sw_N ini G N (d + 1) M pc f (sw_r o :: st) h (kc2 + kc) (ks2 + ks) Fw := by
  intro p l' e R s m args below meth c H locs cells slots F A X hi h1 h2' hW hH hdf hs hL hR hF'
  refine sn_ctor hl hd hcat hfit hc X (by omega) (by omega) hW hH hdf hR (fun w H1 locs1 hw hP1 hS1 => ?_)
  obtain ⟨rfl, hH2, hdf2⟩ := hw
  exact k p l' e R s m args below meth c H1 locs1 (cells + kc2) (slots + ks2) F A (sw_X_up X hN2 (by omega) (by omega)) hi (by omega) (by omega) ⟨hP1, hS1⟩ hH2 hdf2 (sw_okt hs) hL hR (fun pc' A' H' locs' w q1 q2 q3 q4 => by
    have := hF' pc' A' H' locs' w q1 q2 q3 q4
    rw [show cells + kc2 + kc = cells + (kc2 + kc) by omega, show slots + ks2 + ks = slots + (ks2 + ks) by omega]
    exact this)
/-- a method that makes nothing is called in a constructor -/
theorem sn_callE {M2 : sw_M} {idx o ci nn : Nat} {T : u_T} {ty : Nat → FieldType} {l : List Nat} {h2 : sw_H} (hl : sw_LV M.1.cls idx M2 0) (hC : sw_C ci M2.1.cls T nn ty) (hS : S2 o = some (ci, l)) (ho : o < N) (hd : decode M.2.1 pc = .ok (.invokevirtual idx, 3)) (hcat : ((st.map (sw_v G)).map fun v => v.category).sum ≤ 8) (hfit : 1 ≤ M2.2.2.1) (hrt : M2.2.2.2 = none)
    (hdf2 : (∀ a k, N ≤ a → h a k = hD a k) → ∀ a k, N ≤ a → h2 a k = hD a k)
    (hc : sw_E G N S2 d M2 0 (sw_pad (sw_en [sw_r o]) M2.2.2.1) [] h (sw_Qv (fun h' => h' = h2))) (k : sw_N ini G N (d + 1) M (pc + 3) f st h2 kc ks Fw) : sw_N ini G N (d + 1) M pc f (sw_r o :: st) h kc ks Fw := by
  intro p l' e R s m args below meth c H locs cells slots F A X hi h1 h2' hW hH hdf hs hL hR hF'
  refine sw_size X hW (fun hsz => ?_)
  have hts := sw_hts X args
  obtain ⟨x1, x2, x3, x4, x5, x6, x7, x8, x9, x10, x11, x12, x13, x14⟩ := id X
  obtain ⟨l1, l2, l3, l4, l5, ⟨l6, l7, l8⟩, l9, l10⟩ := hl
  have hM := sw_met (vs := [sw_r o]) l' x7 x8 hH (fun v hv => by rw [List.mem_singleton.mp hv]; exact trivial) l9 hfit (by rintro r h' ⟨rfl, -⟩; rw [hrt]; trivial) hc
  have hpre : ∀ U : State, U.heap = H → s.WarmedH U.vm → sw_Pc G N S2 h [sw_r o] ([sw_r o].map (sw_v G)).toArray U := fun U hU hUW => ⟨rfl, State.WarmedH.trans x6 hUW, by rw [hU]; exact hW.1, fun q hq => by
    rw [hU, hW.2.2.1 q (by
      rcases Nat.lt_or_ge q s.heap.size with z | z
      · exact z
      · have h6 := x9 q hq
        rw [Array.getElem?_eq_none z, Array.getElem?_eq_getElem hq] at h6
        cases h6) (fun z : G.1.heap.size ≤ q => by omega)]
    exact x9 q hq, by rw [hU]; exact hsz⟩
  have hrec := va_recv (ci := ci) (q := (M2.1.cls, T, nn)) (sw_hK X) hW.1 hC.1 (q0 := o) (fs := sw_fs G (h o) 0 l) (by rw [sw_ws_get ho, hS, sw_ce_obj hC.2.2.2.2])
  have hcw0 : CallB R s args M.1.cls idx M2.1 M2.2.1 M2.2.2.1 M2.2.2.2 [.code M2.1 M2.2.1 M2.2.2.1 M2.2.2.2] (sw_rm d) 0 0 0 := callB_of 0 hts (sw_good1 l5) rfl rfl rfl (hts _ l4) (hts _ l1) ⟨l6, l7, l8⟩ (sw_roomc (M2 := M2) x11 x12 l10)
  have hrun := va_runV (b := sw_ad G o) (As := []) (rest := st.map (sw_v G)) (g := F0 m pc A ((sw_r o :: st).map (sw_v G))) (locs := locs) (e := e) (below := below) (meth := meth) (cells := cells) (slots := slots) ⟨x1, x2, x3, x4, hts⟩ hM ⟨hcw0, hts _ l2, hts _ l3⟩ ⟨sw_blind, hrec, hpre⟩ rfl rfl hR.1 rfl (lv_room (m := m) (pc := pc) (ls := A) (rest := []) hcat) hd ⟨x13, x14⟩
  refine sw_back hW hrun (fun r h' H1 locs1 hq ho hH1 hW1 => ?_)
  obtain ⟨rfl, rfl⟩ := hq
  exact k p l' e R s m args below meth c H1 locs1 cells slots F A X hi h1 h2' hW1 hH1 (hdf2 hdf) (sw_okt hs) hL hR hF'
theorem sm_new {N2 kc2 ks2 ci n idx : Nat} {C : String} {T : u_T} {ty : Nat → FieldType} {l : List Nat} (e1 : N2 = N + 1) (e2 : kc2 = kc + 1) (e3 : ks2 = ks + n) (hC : sw_C ci C T n ty) (hcl : Cond.classLink M.1.cls idx C ∈ gtb) (hin : Cond.instantiable C n ∈ gtb) (hini : Cond.initialized C ∈ gtb) (hd : decode M.2.1 pc = .ok (.new idx, 3)) (hS : S2 N = some (ci, l)) (hl : ∀ (G : sw_G) (j : Nat), j < n → defaultValue (ty j) = vp_V (sw_fs G (hD N) 0 l) j) (hN : N < 100000)
    (k : sw_N ini G N2 d M (pc + 3) f (sw_r N :: st) h kc ks Fw) : sw_N ini G N d M pc f st h kc2 ks2 Fw := by
  subst e1; subst e2; subst e3
  exact sn_new hC hcl hin hini hd hS hl hN k
theorem hD_arr {t n : Nat} (hS : S2 N = some (100 + t, [n])) (ht : t < 4) : hD N = fun _ => 0 := by
  funext k
  unfold hD
  rw [hS]
  have h1 : ¬ 100 + t < 100 := by omega
  have h2 : ¬ 100 + t = 104 := by omega
  simp only [if_neg h1, if_neg h2]
theorem sm_newa {N2 kc2 ks2 t n : Nat} {z : Int} {atype : ArrayType} (e1 : N2 = N + 1) (e2 : kc2 = kc + 1) (e3 : ks2 = ks + n) (hz : z = (n : Int)) (hS : S2 N = some (100 + t, [n])) (ht3 : t < 3) (ht : ∀ G : sw_G, (sw_ty G)[t]? = some (G.2.2.1 t, newarray.typeOf atype)) (hdv : defaultValue (newarray.typeOf atype) = .int 0) (hra : ∀ (U : State) (cA : ClassId), va_RA U cA (newarray.typeOf atype) → U.vm.findClass ("[" ++ (newarray.typeOf atype).toString) = some cA) (harr : Cond.arrayClass (newarray.typeOf atype) ∈ gtb) (hd : decode M.2.1 pc = .ok (.newarray atype, 2)) (hn : n ≤ 65536) (hbytes : n * componentBytes (newarray.typeOf atype) ≤ 536870912) (hN : N < 100000)
    (k : sw_N ini G N2 d M (pc + 2) f (sw_r N :: st) h kc ks Fw) : sw_N ini G N d M pc f (sw_i z :: st) h kc2 ks2 Fw := by
  subst e1; subst e2; subst e3; subst hz
  refine sn_newa (t := t) (a0 := (n, .inl (fun i => Int32.ofInt (hD N i)))) (ht G) hra harr hd ?_ (fun cA => ?_) hn hbytes hN k
  · rw [hS]
    have h1 : ¬ 100 + t < 100 := by omega
    have h2 : ¬ 100 + t = 103 := by omega
    have h3 : ¬ 100 + t = 104 := by omega
    have h4 : ¬ 100 + t = 105 := by omega
    have h5 : 100 + t - 100 = t := by omega
    simp only [sw_ce, if_neg h1, if_neg h2, if_neg h3, if_neg h4, h5, List.headD_cons]
  · rw [hdv, hD_arr hS (by omega)]
    rfl
theorem sm_newl {N2 kc2 ks2 n : Nat} {z : Int} (e1 : N2 = N + 1) (e2 : kc2 = kc + 1) (e3 : ks2 = ks + n) (hz : z = (n : Int)) (hS : S2 N = some (100 + 3, [n])) (harr : Cond.arrayClass .long ∈ gtb) (hd : decode M.2.1 pc = .ok (.newarray .long, 2)) (hn : n ≤ 65536) (hN : N < 100000)
    (k : sw_N ini G N2 d M (pc + 2) f (sw_r N :: st) h kc ks Fw) : sw_N ini G N d M pc f (sw_i z :: st) h kc2 ks2 Fw := by
  subst e1; subst e2; subst e3; subst hz
  refine sn_newa (atype := .long) (t := 3) (a0 := (n, .inr (.inl (fun i => Int64.ofInt (hD N i))))) rfl (fun _ _ h => h) harr hd ?_ (fun cA => ?_) hn (by show n * 8 ≤ _; omega) hN k
  · rw [hS]
    simp [sw_ce]
  · rw [hD_arr hS (by omega)]
    rfl
theorem sm_anew {N2 kc2 ks2 idx n : Nat} {z : Int} (e1 : N2 = N + 1) (e2 : kc2 = kc + 1) (e3 : ks2 = ks + n) (hz : z = (n : Int)) (hS : S2 N = some (104, [n])) (hcl : Cond.classLink M.1.cls idx "StackWords$State" ∈ gtb) (hov : Cond.arrayOver (.object "StackWords$State") ∈ lw_tbl) (hd : decode M.2.1 pc = .ok (.anewarray idx, 3)) (hn : n ≤ 65536) (hN : N < 100000)
    (k : sw_N ini G N2 d M (pc + 3) f (sw_r N :: st) h kc ks Fw) : sw_N ini G N d M pc f (sw_i z :: st) h kc2 ks2 Fw := by
  subst e1; subst e2; subst e3; subst hz
  have e : hD N = fun _ => -1 := by
    funext k
    unfold hD
    rw [hS]
    simp
  refine sn_anew (a0 := (n, .inr (.inr (.inr (.inr (fun _ => none)))))) rfl hcl hov hd ?_ (fun cA => ?_) hn hN k
  · rw [hS, e]
    simp [sw_ce]
  · rfl
theorem sm_callI {M2 : sw_M} {N2 idx o kc2 ks2 kc3 ks3 : Nat} {host : String} {h2 : sw_H} (e1 : N2 = N + kc2) (e2 : kc3 = kc2 + kc) (e3 : ks3 = ks2 + ks) (hl : sw_LI M.1.cls idx M2 host) (hd : decode M.2.1 pc = .ok (.invokespecial idx, 3)) (hcat : ((st.map (sw_v G)).map fun v => v.category).sum ≤ 8) (hfit : 1 ≤ M2.2.2.1) (hN2 : N2 ≤ 100000)
    (hc : sw_N true G N d M2 0 (sw_pad (sw_en [sw_r o]) M2.2.2.1) [] h kc2 ks2 (sw_Fx G N2 h2)) (k : sw_N ini G N2 (d + 1) M (pc + 3) f st h2 kc ks Fw) : sw_N ini G N (d + 1) M pc f (sw_r o :: st) h kc3 ks3 Fw := by
  subst e1; subst e2; subst e3
  exact sn_callI hl hd hcat hfit hN2 hc k
/-- all is made: on to the small machine -/
theorem sn_E {S : sw_S} {PP : sw_H → Prop} (hcv : ∀ H, va_P G.2.1 vwCl (sw_ws G N S2 h) H → va_P G.2.1 vwCl (sw_ws G N S h) H) (hok : sw_okH S h) (hE : sw_E G N S d M pc f st h (sw_Qv PP)) : sw_N ini G N d M pc f st h 0 0 (fun w => ∃ h', w = sw_ws G N S h' ∧ sw_okH S h' ∧ PP h') := by
  intro p l' e R s m args below meth c H locs cells slots F A X hi h1 h2 hW hH hdf hs hL hR hF'
  refine hE p l' e R s m args below meth c H locs cells slots F A X ⟨hcv H hW.1, hW.2⟩ hok hs hL hR (fun pc' A' H' locs' r h' hd hq ho hH' hW' => ?_)
  obtain ⟨rfl, hp⟩ := hq
  exact hF' pc' A' H' locs' _ hd ⟨h', rfl, hH', hp⟩ hW'.1 hW'.2
end NRULES
/-- what takePlainly lays down -/
def UT (a i : Nat) (h : sw_H) : sw_H := fun b j => if b = a ∧ j < i then 1 + (j : Int) / 19 else h b j
theorem UT_succ (a i : Nat) (h : sw_H) : sw_up (UT a i h) a i (1 + (i : Int) / 19) = UT a (i + 1) h := by
  funext b j
  unfold sw_up UT
  by_cases q : b = a ∧ j = i
  · rw [if_pos q, if_pos (by omega)]
    rw [q.2]
  · rw [if_neg q]
    by_cases q2 : b = a ∧ j < i
    · rw [if_pos q2, if_pos (by omega)]
    · rw [if_neg q2, if_neg (by omega)]
theorem e_takePlainly {G : sw_G} (d : Nat) {N o a : Nat} {h : sw_H} {l : List Nat} (hS : S2 o = some (0, l)) (hl : l[15]? = some 2) (ho : o < N) (hSa : S2 a = some (100, [57])) (ha : a < N) (hr : h o 15 = (a : Int)) (hoa : o ≠ a) : sw_E G N S2 d mX0_takePlainly 0 [some (sw_r o), none] [] h (sw_Qv (fun h' => h' = UT a 57 h)) := by
  refine sx_iconst dX0_takePlainly_0 ⟨by decide, by decide⟩ ?_
  refine sx_istore_n dX0_takePlainly_1 (by decide) ?_
  refine sx_loop1 (fun (h1 : sw_H) (i : Int) => 0 ≤ i ∧ i ≤ 57 ∧ h1 = UT a i.toNat h) (fun (_ : sw_H) (i : Int) => (57 - i).toNat) (fun (h1 : sw_H) (i : Int) => sw_E G N S2 d mX0_takePlainly 2 [some (sw_r o), some (sw_i i)] [] h1 (sw_Qv (fun h' => h' = UT a 57 h))) ?_ _ _ ?_
  · rintro h1 i ⟨i0, i57, rfl⟩ ih
    have hr1 : UT a i.toNat h o 15 = (a : Int) := by unfold UT; rw [if_neg (fun q => hoa q.1)]; exact hr
    refine sx_iload_n dX0_takePlainly_2 rfl ?_
    refine sx_aload_n dX0_takePlainly_3 rfl ?_
    refine sx_getR (k := 15) (t := a) cl_0 fl_X0_42 dX0_takePlainly_4 hS ho hl (by decide) hr1 ?_
    refine sx_alen (t := 0) dX0_takePlainly_7 hSa (by decide) ha (by decide) ?_
    refine sx_icmp_ge (tgt := 29) dX0_takePlainly_8 (by decide) (fun c1 => ?_) (fun c1 => ?_)
    · refine sx_ret dX0_takePlainly_29 ?_
      exact ⟨rfl, by rw [show i.toNat = 57 by omega]⟩
    · refine sx_aload_n dX0_takePlainly_11 rfl ?_
      refine sx_getR (k := 15) (t := a) cl_0 fl_X0_42 dX0_takePlainly_12 hS ho hl (by decide) hr1 ?_
      refine sx_iload_n dX0_takePlainly_15 rfl ?_
      refine sx_iconst dX0_takePlainly_16 ⟨by decide, by decide⟩ ?_
      refine sx_iload_n dX0_takePlainly_17 rfl ?_
      refine sx_bipush dX0_takePlainly_18 ⟨by decide, by decide, by decide⟩ ?_
      refine sx_idiv dX0_takePlainly_20 (by decide) ?_
      refine sx_iadd dX0_takePlainly_21 ?_
      have ed : sw_w (1 + sw_w (i.tdiv 19)) = 1 + ((i.toNat : Nat) : Int) / 19 := by
        have e1 : sw_w (i / 19) = i / 19 := sw_w_id (by omega) (by omega)
        rw [Int.tdiv_eq_ediv_of_nonneg i0, e1, sw_w_id (by omega) (by omega)]
        omega
      rw [ed]
      refine sx_iastore dX0_takePlainly_22 hSa ha (by decide) ⟨i0, by omega⟩ ?_
      rw [UT_succ]
      refine sx_iinc dX0_takePlainly_23 (by decide) rfl ?_
      rw [sw_w_id (by omega) (by omega)]
      refine sx_goto (tgt := 2) dX0_takePlainly_26 (by decide) ?_
      exact ih _ _ ⟨by omega, by omega, by rw [show (i + 1).toNat = i.toNat + 1 by omega]⟩ (by omega)
  · refine ⟨by omega, by omega, ?_⟩
    funext b j
    unfold UT
    rw [if_neg (by omega)]

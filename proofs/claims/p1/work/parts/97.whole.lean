/-! THE CLAIM OUT OF ONE WALK OF THE LAW'S BODY. Your part is whole_start (and what it stands on); all else here is the same for every law, but numbers. -/
def R_law : String := "StackWordsLaw"
def lw_P (b : Addr) (xs : List Int32) (args : Array Value) (s : State) : Prop := args = #[.ref b] ∧ s.IntsAt b xs ∧ xs.length ≤ 6 ∧ (Jvm.Cond.and given_1 narrow_1).before args s = true
def lw_Q (_ : Array Value) (s : State) (o : Outcome) (t : State) : Prop := o = .returned (some (.int 1)) ∧ Framed s o t [] 600000 7302250
def lw_Z (below : List Frame) (a : Array Value) (s : State) : State → Prop := fun t => ∃ o, t.status = .running ∧ Ended t below o ∧ lw_Q a s o t
/-- the law's own end, with 1 on the stack, nothing written that was there before, its room as the claim has it -/
theorem lw_ret {p : Program} {l : Launch} {e : Env} {s : State} {m : MethodId} {below : List Frame} {meth : Method} {c : Code} {b : Nat} (hx : p.tables.exec = Jvm.exec) (hb : c.code = code) (hr : meth.sig.returnType = ret) (hlocks : meth.locks = false) {pc : Nat} {H : Heap} {ls : Array Slot} (hdg : decode code pc = .ok (.ireturn, 1)) : W p l e room_1 s m #[Value.ref b] below meth c H [] 600000 7302250 (lw_Z below #[Value.ref b] s) (F0 m pc ls [.int 1]) := by
  intro T hT X
  obtain ⟨fs, hret, hrun, hended, hW, hframe⟩ := X.leave (v := some (.int 1)) (hlocks := hlocks) (fun h => by rw [hr] at h; cases h)
  have hmeth' : T.vm.method? m = some meth := X.method'
  refine ⟨T.setFrames fs, ?_, .returned (some (.int 1)), hrun, hended, rfl, ⟨_, rfl⟩, hW, hframe⟩
  jvm_step X.here [X.here.top, hx, hb, hdg, hmeth', hr, ret, narrow_b1]
  (try refine ⟨rfl, ?_⟩); (try refine ⟨rfl, ?_⟩)
  first | (intro acts; rw [hret _ acts rfl rfl rfl]) | rw [hret _ _ rfl rfl rfl]
  exact Steps.refl _
/-- what holds at the law's entry: the machine, the code, the tables' words (any of lw_tbl by 'hts w (by decide +kernel)'), the script of L ints xs at the cell b, what the Statement gives of the start (any of its parts by flat_of_before) -/
def lw_At (p : Program) (s : State) (m : MethodId) (meth : Method) (c : Code) (b L : Nat) (xs : Nat → Int32) : Prop :=
  p.tables.exec = Jvm.exec ∧ c.code = code ∧ meth.sig.returnType = ret ∧ c.maxLocals = 4 ∧ s.vm.findClass R_law = some m.cls ∧ (∀ w ∈ lw_tbl, w.before #[Value.ref b] s = true) ∧ va_X b L xs s s.heap ∧ b < s.heap.size ∧ meth.locks = false ∧ (Jvm.Cond.and given_1 narrow_1).before #[Value.ref b] s = true
theorem sl_new {G : sw_G} {N d : Nat} {M : sw_M} {pc : Nat} {st : List sw_V} {h : sw_H} {ci n idx : Nat} {C : String} {T : u_T} {ty : Nat → FieldType} {ls : List Nat} (hC : sw_C ci C T n ty) (hcl : Cond.classLink M.1.cls idx C ∈ gtb) (hin : Cond.instantiable C n ∈ gtb) (hini : Cond.initialized C ∈ gtb) (hd : decode M.2.1 pc = .ok (.new idx, 3)) (hS : S2 N = some (ci, ls)) (hl : ∀ (G : sw_G) (j : Nat), j < n → defaultValue (ty j) = vp_V (sw_fs G (hD N) 0 ls) j) (hN : N < 100000)
    {p : Program} {l' : Launch} {e : Env} {R : Room} {s : State} {m : MethodId} {args : Array Value} {below : List Frame} {meth : Method} {c : Code} {H : Heap} {locs : List Loc} {cells slots : Nat} {F : State → Prop} {A : Array Slot} (X : sw_X G N d p R s m meth c M cells slots) (h1 : cells + 1 ≤ R.cells) (h2 : slots + n ≤ R.slots) (hW : sw_W G N S2 h s H locs) (hdf : ∀ a k, N ≤ a → h a k = hD a k)
    (k : ∀ H1 : Heap, sw_W G (N + 1) S2 h s H1 locs → W p l' e R s m args below meth c H1 locs (cells + 1) (slots + n) F (F0 m (pc + 3) A ((sw_r N :: st).map (sw_v G)))) : W p l' e R s m args below meth c H locs cells slots F (F0 m pc A (st.map (sw_v G))) := by
  refine sw_size X hW (fun hsz => ?_)
  have hts := sw_hts X args
  obtain ⟨c1, c2, c3, c4, c5⟩ := hC
  have hKn := (sw_hK X).1 ci _ c1
  refine W.newcK (g := F0 m pc A (st.map (sw_v G))) X.1 X.2.1 X.2.2.2.1 (hts _ hcl) (hts _ hin) (hts _ hini) rfl hd (by omega) (by omega) hKn.2.1 rfl (fun H1 kC hkC e1 z1 o1 => ?_)
  have had : sw_ad G N = H.size := by unfold sw_ad; rw [if_pos hN, hsz]
  have hW1 : sw_W G (N + 1) S2 h s H1 locs := by
    refine sw_W_push hN (sw_Gs X) hsz hW z1 o1 ?_
    rw [hS, sw_ce_obj c5, had, sw_hdf hdf (Nat.le_refl N)]
    exact ⟨_, c1, (u_born ty hts c2 hKn hkC e1 c3).to (hl G)⟩
  have e := k H1 hW1
  rw [show (sw_r N :: st).map (sw_v G) = .ref H.size :: st.map (sw_v G) by rw [List.map_cons]; show Value.ref (sw_ad G N) :: _ = _; rw [had]] at e
  exact e
theorem e_law {G : sw_G} {d L : Nat} {xs : Nat → Int32} {h : sw_H} (hs : SC G L xs) (h6 : L ≤ 6) (hP : P1 h) : sw_E G NH SH (d + 158) mL 16 [some (sw_r 100008), some (sw_r 0), some (sw_r 224), none] [] h (sw_Qz (fun z h1 => z = 1)) := by
  refine sx_iconst dL_law_16 ⟨by decide, by decide⟩ ?_
  refine sx_istore_n dL_law_17 (by decide) ?_
  exact e_one hs h6 hP
set_option maxRecDepth 20000 in
set_option maxHeartbeats 4000000 in
theorem whole_start {p : Program} {e : Env} {s : State} {m : MethodId} {below : List Frame} {meth : Method} {c : Code} (l : Launch) (hflags : l.flags = flags0) {b L : Nat} {xs : Nat → Int32} (hL : L ≤ 6) (C0 : lw_At p s m meth c b L xs) : W p l e room_1 s m #[Value.ref b] below meth c s.heap [] 0 0 (lw_Z below #[Value.ref b] s) (entryFrame m ([Value.ref b] : List Value).toArray 4) := by
  obtain ⟨hx, hb, hr, hml, hown, hts, hX, hbl, hlocks, hgv⟩ := id C0
  obtain ⟨G, rfl, hG8, hg, hsc⟩ := start_G hts hX hbl (Nat.le_trans hL (by decide)) hgv
  have X0 : sw_X G 0 158 p room_1 G.1 m meth c mL 0 0 := ⟨hx, hb, hml, hown, hlocks, State.WarmedH.refl _, hg, by decide, fun q _ => rfl, rfl, by decide, by decide, by decide, by decide⟩
  have hW0 : sw_W G 0 S2 hD G.1 G.1.heap [] := ⟨fun k q hq => by simp [sw_ws] at hq, va_S.rf⟩
  have hl := lv_entry ([.ref b]) (n := 4) (Nat.le_of_ble_eq_true rfl)
  rw [lg_entry_eq]
  generalize (lg_sl ([.ref b]) ++ List.replicate (4 - (lg_sl ([.ref b])).length) Slot.unset).toArray = A at hl ⊢
  have hl : lv_has A 4 [(0, .ref b)] := hl
  have hv : sw_v G (sw_r 100008) = Value.ref b := by
    simp only [sw_v, sw_ad]
    rw [if_neg (by omega), hG8]
  have hR : sw_R G A 4 [some (sw_r 100008), none, none, none] := ⟨hl.1, hl.2.1, fun j v hj => by
    match j, hj with
    | 0, hj =>
      cases hj
      rw [hv]
      exact hl.2.2 (0, .ref b) List.mem_cons_self
    | 1, hj => cases hj
    | 2, hj => cases hj
    | 3, hj => cases hj
    | j + 4, hj => cases hj⟩
  show W p l e room_1 G.1 m #[Value.ref b] below meth c G.1.heap [] 0 0 (lw_Z below #[Value.ref b] G.1) (F0 m 0 A (([] : List sw_V).map (sw_v G)))
  refine sl_new (M := mL) cl_11 wi_cl0 wi_11 wi_in0 dL_law_0 s2_0 dv_0 (by decide) X0 (by decide) (by decide) hW0 (fun _ _ _ => rfl) (fun H1 hW1 => ?_)
  have X1 : sw_X G 1 158 p room_1 G.1 m meth c mL 1 15 := sw_X_up (k := 1) (n := 15) X0 (by decide) (by decide) (by decide)
  refine lv_dup hx hb dL_law_3 rfl ?_
  refine sn_ctor (G := G) (M := mL) (st := [sw_r 0]) (f := [some (sw_r 100008), none, none, none]) (o := 0) (d := 157) li_L0 dL_law_4 (Nat.le_of_ble_eq_true rfl) (by decide) (k_0 153) X1 (by decide) (by decide) hW1 ok_D (fun _ _ _ => rfl) hR (fun w H2 locs2 hw hP2 hS2 => ?_)
  obtain ⟨rfl, hH2, hdf2⟩ := hw
  have X2 : sw_X G 224 158 p room_1 G.1 m meth c mL 224 10553 := sw_X_up (k := 223) (n := 10538) X1 (by decide) (by decide) (by decide)
  refine lv_astore_n (i := 1) hx hb dL_law_7 rfl hR.has (by decide) rfl (fun A2 hA2 => ?_)
  have hR2 : sw_R G A2 4 [some (sw_r 100008), some (sw_r 0), none, none] := sw_R.store (f := [some (sw_r 100008), none, none, none]) (i := 1) (v := sw_r 0) hA2
  refine sl_new (M := mL) (st := []) cl_12 wi_cl1 wi_12 wi_in1 dL_law_8 s2_224 dv_224 (by decide) X2 (by decide) (by decide) ⟨hP2, hS2⟩ hdf2 (fun H3 hW3 => ?_)
  have X3 : sw_X G 225 158 p room_1 G.1 m meth c mL 225 10656 := sw_X_up (k := 1) (n := 103) X2 (by decide) (by decide) (by decide)
  refine lv_dup hx hb dL_law_11 rfl ?_
  refine sn_ctor (G := G) (M := mL) (st := [sw_r 224]) (f := [some (sw_r 100008), some (sw_r 0), none, none]) (o := 224) (d := 157) li_L1 dL_law_12 (Nat.le_of_ble_eq_true rfl) (by decide) (k_ZF 155) X3 (by decide) (by decide) hW3 hH2 (fun a k q => hdf2 a k (by omega)) hR2 (fun w H4 locs4 hw hP4 hS4 => ?_)
  obtain ⟨h1, rfl, hH4, hPP⟩ := hw
  have X4 : sw_X G 290 158 p room_1 G.1 m meth c mL 290 22432 := sw_X_up (k := 65) (n := 11776) X3 (by decide) (by decide) (by decide)
  refine lv_astore_n (i := 2) hx hb dL_law_15 rfl hR2.has (by decide) rfl (fun A4 hA4 => ?_)
  have hR4 : sw_R G A4 4 [some (sw_r 100008), some (sw_r 0), some (sw_r 224), none] := sw_R.store (f := [some (sw_r 100008), some (sw_r 0), none, none]) (i := 2) (v := sw_r 224) hA4
  refine e_law (d := 0) hsc hL hPP p l e room_1 G.1 m #[Value.ref b] below meth c H4 locs4 290 22432 _ A4 X4 ⟨hP4, hS4⟩ hH4 (fun v hv => by simp at hv) (fun j v hj => ?_) hR4 (fun pc' A' H' locs' r h' hdec hq hok hH' hW' => ?_)
  · match j, hj with
    | 0, hj => cases hj; trivial
    | 1, hj => cases hj; trivial
    | 2, hj => cases hj; trivial
    | 3, hj => cases hj
    | j + 4, hj => cases hj
  · obtain ⟨z, rfl, -, rfl⟩ := hq
    refine va_forget (fun q hq => hW'.2.2.2 q hq) ?_
    refine W.widen (k := 600000) (n := 7302250) (by decide) (by decide) ?_
    exact lw_ret hx hb hr hlocks hdec
set_option maxHeartbeats 4000000 in
theorem lw_walk (l : Launch) (hflags : l.flags = flags0) (b : Addr) (xs : List Int32) : MetFree l x (headSpec (Jvm.Cond.code x code maxLocals ret :: tables_1) room_1) (lw_P b xs) (fun _ _ _ _ _ => True) lw_Q := by
  refine MetFree.of_bodyS (code := code) (maxLocals := maxLocals) (ret := ret) (by decide) ?_ ?_
  · intro args s m h hn
    obtain ⟨meth, c, h1, h2, h3, h4, h5, h6, -, -⟩ := Cond.code_spec hn (atoms_spec (ws := Jvm.Cond.code x code maxLocals ret :: tables_1) h _ List.mem_cons_self)
    exact ⟨meth, c, h1, h2, h3, h4, h5, h6⟩
  · intro p e s m args below meth c s₁ B hml0 hP _
    obtain ⟨rfl, hx, hbd, hgv⟩ := hP
    obtain ⟨scr, harrAt, hlist, hof, hsmall⟩ := hx
    obtain ⟨hcb, hkn, -, -⟩ := State.arrayAt?_spec harrAt
    have hown : s.vm.findClass R_law = some m.cls := findClass_of_methodNamed B.named
    have hts0 : ∀ c ∈ (Jvm.Cond.code x code maxLocals ret :: tables_1), c.before #[Value.ref b] s = true := atoms_spec (ws := Jvm.Cond.code x code maxLocals ret :: tables_1) B.pre
    have hts : ∀ w ∈ lw_tbl, w.before #[Value.ref b] s = true := k2_hts_sels lw_privs (fun w hw => hts0 w (List.mem_cons_of_mem _ hw)) lw_privs_ok
    have hml : c.maxLocals = 4 := B.maxLocals_eq (hts0 _ List.mem_cons_self)
    have X₀ : Stand p l e room_1 s m #[Value.ref b] below meth c s₁ [] 0 0 := Stand.of_body B
    have hh0 : s₁.heap = s.heap := by rw [B.state]; rfl
    have hsz : scr.slots.size = xs.length := by rw [← Array.length_toList, hlist, List.length_map]
    have hval : ∀ j : Nat, j < xs.length → scr.slots[j]? = some (.int (xs.getD j 0)) := fun j hj => by
      rw [← Array.getElem?_toList, hlist]
      simp [hj]
    have hbl : b < s.heap.size := (Array.getElem?_eq_some_iff.mp hcb).1
    have hX : va_X b xs.length (fun j => xs.getD j 0) s s.heap := ⟨scr, hcb, hof, hkn, hsz, hval⟩
    have K : W p l e room_1 s m #[Value.ref b] below meth c s₁.heap [] 0 0 (lw_Z below #[Value.ref b] s) (entryFrame m ([Value.ref b] : List Value).toArray 4) := by
      rw [hh0]
      exact whole_start l hflags hbd ⟨B.exec, B.bytes, B.returns, hml, hown, hts, hX, hbl, B.notSynchronized, hgv⟩
    obtain ⟨t, a1, o, b1, b2, b3⟩ := K s₁ rfl X₀
    exact ⟨t, o, a1, b1, b2, b3⟩
theorem lw_pre_spec {args : Array Value} {s : State} (h : (Jvm.Cond.and given_1 narrow_1).before args s = true) (hr : rest_1_c.before args s = true) : ∃ (b : Addr) (xs : List Int32), lw_P b xs args s := by
  have hs := flat_of_before _ h
  have hq := flat_of_before _ hr
  have hc : (Cond.count 1).before args s = true := hs _ (by decide +kernel)
  have harr : (Cond.arrayOf (.arg 0) .int).before args s = true := hs _ (by decide +kernel)
  have hle : (Cond.le (.length (.arg 0)) (.int 6)).before args s = true := hs _ (by decide +kernel)
  have hlen : (Cond.isInt (.length (.arg 0))).before args s = true := hq _ (by decide +kernel)
  have hall : (Cond.all (.arg 0) (.isInt (.elem (.arg 0) (.index 0)))).before args s = true := hq _ (by decide +kernel)
  obtain ⟨b, xs, hb, hx⟩ := State.ints_of_pre rfl harr hlen hall
  have hsm : xs.length < 2 ^ 31 := hx.choose_spec.2.2.2
  have hev : (Term.length (.arg 0)).eval args s none [] s = some (.int xs.length.toInt32) := hx.length_eval hb
  have hv := Cond.le_ints hev (show (Term.int 6).eval args s none [] s = some (.int 6) from rfl)
  have hd : xs.length.toInt32 ≤ 6 := by
    simpa [Cond.before, Cond.holds, hv] using hle
  have hN : xs.length ≤ 6 := (Int32.ofNat_le_ofNat hsm (by decide)).mp (show Int32.ofNat xs.length ≤ Int32.ofNat 6 from hd)
  exact ⟨b, xs, Cond.one_arg hc (show args[0]? = some (.ref b) from hb), hx, hN, h⟩
theorem lw_comes (l : Launch) (hflags : l.flags = flags0) : Comes l x (Jvm.Cond.code x code maxLocals ret :: tables_1) room_1 (fun tb e args s => Calls_1 tb e args s ∧ rest_1 tb e args s ∧ Pre_1 tb e args s)
    (fun _ _ args s o t => lw_Q args s o t) := by
  intro p e ha hc hk s m args below hf hfit hheap happ hpre
  obtain ⟨b, xs, hP⟩ := lw_pre_spec hpre.2.2 hpre.2.1
  obtain ⟨k, o, h1, h2, h3, hQ⟩ := lw_walk l hflags b xs p e ha hc hk s m args below hf ((Spec.applies_iff_loose hf).mp happ).1 hP trivial
  exact ⟨k, o, h1, h2, h3, hQ⟩
theorem lw_frame {s t : State} {o : Outcome} {args : Array Value} (h : Framed s o t [] 600000 7302250) :
    Framed s o t (fieldLocs frame_1_writes args s ++ arrayLocs frame_1_arrays args s ++ staticLocs frame_1_statics s) 600000 7302250 := h
theorem lw_limb (L : Cond) (hL : ∀ (args : Array Value) (s t : State), L.after args s (.returned (some (.int 1))) t = true) :
    ArmFor flags0 classFile x code maxLocals ret World_1 tables_1 room_1 Calls_1 rest_1 Pre_1
      (fun tb e a s o t => postC L tb e a s o t ∧ Framed s o t (fieldLocs frame_1_writes a s ++ arrayLocs frame_1_arrays a s ++ staticLocs frame_1_statics s) 600000 7302250) := by
  intro l hflags _ _ p e ha hc hk s m args below hf hfit hheap happ hpre
  obtain ⟨k, o, h1, h2, h3, rfl, hF⟩ := lw_comes l hflags p e ha hc hk s m args below hf hfit hheap happ hpre
  exact ⟨k, _, h1, h2, h3, hL args s _, lw_frame hF⟩
theorem i_vc : Claimed_1_1 ∧ Claimed_1_2 := ⟨lw_limb limb_1_1 (fun args s t => by simp [limb_1_1, Cond.after, Cond.holds, Cond.value]), lw_limb limb_1_2 (fun args s t => Cond.after_iff.mpr (by
  first | (rw [show limb_1_2 = Cond.eq .result (.int 1) from rfl, Cond.eq_ints (x := 1) (y := 1) rfl rfl]; simp; done) | (simp [limb_1_2, Cond.value, Term.eval]; done)))⟩

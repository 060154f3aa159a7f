-- ===== calls =====
def sw_Qv (P : sw_H → Prop) : Option sw_V → sw_H → Prop := fun r h' => r = none ∧ P h'
def sw_Qi (P : Int → sw_H → Prop) : Option sw_V → sw_H → Prop := fun r h' => ∃ z, r = some (sw_i z) ∧ P z h'
def sw_Qz (P : Int → sw_H → Prop) : Option sw_V → sw_H → Prop := fun r h' => ∃ z, r = some (sw_i z) ∧ (z = 0 ∨ z = 1) ∧ P z h'
def sw_Qr (P : Nat → sw_H → Prop) : Option sw_V → sw_H → Prop := fun r h' => ∃ a, r = some (sw_r a) ∧ P a h'
abbrev sw_hd (M : sw_M) (n : Nat) : Prop := (M.1.cls ≠ "java/lang/invoke/MethodHandle" ∧ M.1.cls ≠ "java/lang/invoke/VarHandle" ∧ (parseMethodDescriptor M.1.desc).map (fun d => d.parameters.length) = some n) ∧ plainName M.1.cls = true ∧ M.2.2.1 ≤ 40
/-- what the tables say at a call of an object's method; of one that is a nest mate's; of a static one -/
def sw_LV (own : String) (idx : Nat) (M : sw_M) (n : Nat) : Prop := Cond.methodLink own idx M.1 ∈ gtb ∧ Cond.instanceMethod M.1 ∈ gtb ∧ Cond.selects M.1.cls M.1 M.1 ∈ gtb ∧ Cond.initialized M.1.cls ∈ gtb ∧ Cond.code M.1 M.2.1 M.2.2.1 M.2.2.2 ∈ gtb ∧ sw_hd M n
def sw_LN (own : String) (idx : Nat) (M : sw_M) (n : Nat) (host : String) : Prop := Cond.methodLinkNest own idx M.1 host ∈ lw_tbl ∧ Cond.instanceMethod M.1 ∈ gtb ∧ Cond.selects M.1.cls M.1 M.1 ∈ gtb ∧ Cond.initialized M.1.cls ∈ gtb ∧ Cond.code M.1 M.2.1 M.2.2.1 M.2.2.2 ∈ gtb ∧ sw_hd M n
def sw_LS (own : String) (idx : Nat) (M : sw_M) (n : Nat) : Prop := Cond.methodLink own idx M.1 ∈ gtb ∧ Cond.static M.1 ∈ gtb ∧ Cond.initialized M.1.cls ∈ gtb ∧ Cond.code M.1 M.2.1 M.2.2.1 M.2.2.2 ∈ gtb ∧ sw_hd M n
section CALLS
variable {G : sw_G} {N : Nat} {S : sw_S} {d : Nat} {M : sw_M} {pc : Nat} {f : sw_L} {st stk : List sw_V} {h : sw_H} {Q Q2 : Option sw_V → sw_H → Prop} {M2 : sw_M} {idx n o : Nat} {vs : List sw_V}
theorem sw_blind {vs : List sw_V} : FrameBlind (sw_Pc G N S h vs) := fun a U g mk q => q
theorem sw_size {p : Program} {l : Launch} {e : Env} {R : Room} {s : State} {m : MethodId} {args : Array Value} {below : List Frame} {meth : Method} {c : Code} {H : Heap} {locs : List Loc} {cells slots : Nat} {F : State → Prop} {g : JFrame} (X : sw_X G N d p R s m meth c M cells slots) (hW : sw_W G N S h s H locs)
    (k : H.size = G.1.heap.size + N → W p l e R s m args below meth c H locs cells slots F g) : W p l e R s m args below meth c H locs cells slots F g := by
  intro T hT Y
  refine k ?_ T hT Y
  have h1 := Y.heapSize
  rw [hT] at h1
  have h2 : s.heap.size + cells = G.1.heap.size + N := X.2.2.2.2.2.2.2.2.2.1
  have h3 := hW.2.1
  by_cases hN : N = 0
  · have h4 : cells = 0 ∨ 0 < cells := by omega
    rcases h4 with h4 | h4
    · omega
    · have h5 : G.1.heap.size ≤ s.heap.size := by
        rcases Nat.lt_or_ge s.heap.size G.1.heap.size with q | q
        · have h6 := X.2.2.2.2.2.2.2.2.1 s.heap.size q
          rw [Array.getElem?_eq_none (Nat.le_refl _), Array.getElem?_eq_getElem q] at h6
          cases h6
        · exact q
      omega
  · have h4 := (hW.1 (N - 1) _ (sw_ws_get (by omega))).lt
    simp only [sw_ad, if_pos (show N - 1 < 100000 by have := X.2.2.2.2.2.2.2.1; omega)] at h4
    omega
theorem sw_back {p : Program} {l : Launch} {e : Env} {R : Room} {s : State} {m : MethodId} {args : Array Value} {below : List Frame} {meth : Method} {c : Code} {H : Heap} {locs : List Loc} {cells slots : Nat} {F : State → Prop} {A : Array Slot} {sv : List Value} {aa : Array Value} (hW : sw_W G N S h s H locs)
    (hrun : va_Run p l e R s m args below meth c H locs cells slots 0 0 (F0 m pc A sv) (st.map (sw_v G)) (sw_Qc G N S Q2 aa) (sw_B G))
    (kk : ∀ (r : Option sw_V) (h' : sw_H) (H1 : Heap) (locs1 : List Loc), Q2 r h' → (∀ v ∈ r.toList, sw_ok v) → sw_okH S h' → sw_W G N S h' s H1 locs1 → W p l e R s m args below meth c H1 locs1 cells slots F (F0 m (pc + 3) A ((r.toList ++ st).map (sw_v G)))) :
    W p l e R s m args below meth c H locs cells slots F (F0 m pc A sv) := by
  intro T hT Y
  obtain ⟨v, st₀, t, T', L, h0, Y', hL, e1, e2, ⟨r, h', hv, hq, ho, hH', hP', hz, hk⟩, stp⟩ := hrun T hT Y
  have hv' : v = r.map (sw_v G) := by cases hv; rfl
  subst hv'
  rw [h0] at hz hk
  have hS1 : va_S (sw_B G) s.heap T'.heap (locs ++ L) := ⟨Nat.le_trans hW.2.1 (by rw [e1]; exact hz), fun q h1 h2 => by rw [e1, hk q (Nat.lt_of_lt_of_le h1 hW.2.1) h2]; exact hW.2.2.1 q h1 h2, fun q hq => by
      rcases List.mem_append.mp hq with z | z
      · exact hW.2.2.2 q z
      · exact hL q z⟩
  obtain ⟨t2, a1, b1⟩ := kk r h' T'.heap (locs ++ L) hq ho hH' ⟨by rw [e1]; exact hP', hS1⟩ T' rfl Y'
  refine ⟨t2, stp t2 ?_, b1⟩
  have es : (r.toList ++ st).map (sw_v G) = (r.map (sw_v G)).toList ++ st.map (sw_v G) := by cases r <;> simp
  rw [es] at a1
  exact a1
theorem sw_roomc {M2 : sw_M} {R : Room} (h1 : d + 1 ≤ R.frames) (h2 : 64 * (d + 1) ≤ R.locals) (h3 : M2.2.2.1 ≤ 40) : (sw_rm d).frames + 1 ≤ R.frames ∧ 8 + (M2.2.2.1 + 11) + (sw_rm d).locals ≤ R.locals := ⟨h1, by show 8 + (M2.2.2.1 + 11) + 64 * d ≤ _; omega⟩
theorem sw_good1 {w : Cond} (hw : w ∈ gtb) : GoodIn gtb [w] := by
  intro x hx
  rw [List.mem_singleton.mp hx]
  exact ⟨hw, good_of_word (List.mem_filter.mp hw).2⟩
theorem sx_callV (hl : sw_LV M.1.cls idx M2 n) {ci nn : Nat} {T : u_T} {ty : Nat → FieldType} {l : List Nat} (hC : sw_C ci M2.1.cls T nn ty) (hS : S o = some (ci, l)) (ho : o < N) (hd : decode M.2.1 pc = .ok (.invokevirtual idx, 3)) (hstk : stk = vs.reverse ++ sw_r o :: st) (hn : vs.length = n) (hcat : ((st.map (sw_v G)).map fun v => v.category).sum ≤ 8) (hfit : (lg_sl ((sw_r o :: vs).map (sw_v G))).length ≤ M2.2.2.1) (hrt : ∀ r h', Q2 r h' → sw_rt M2.2.2.2 r)
    (hc : sw_E G N S d M2 0 (sw_pad (sw_en (sw_r o :: vs)) M2.2.2.1) [] h Q2) (k : ∀ r h', Q2 r h' → sw_E G N S (d + 1) M (pc + 3) f (r.toList ++ st) h' Q) : sw_E G N S (d + 1) M pc f stk h Q := by
  subst hstk
  intro p l' e R s m args below meth c H locs cells slots F A X hW hH hs hL hR hF'
  refine sw_size X hW (fun hsz => ?_)
  have hts := sw_hts X args
  obtain ⟨x1, x2, x3, x4, x5, x6, x7, x8, x9, x10, x11, x12, x13, x14⟩ := id X
  obtain ⟨l1, l2, l3, l4, l5, ⟨l6, l7, l8⟩, l9, l10⟩ := hl
  have hvs : ∀ v ∈ (sw_r o :: vs), sw_ok v := by
    intro v hv
    rcases List.mem_cons.mp hv with rfl | hv
    · exact trivial
    · exact hs v (List.mem_append_left _ (List.mem_reverse.mpr hv))
  have hst : ∀ v ∈ st, sw_ok v := fun v hv => hs v (List.mem_append_right _ (List.mem_cons_of_mem _ hv))
  have hM := sw_met l' x7 x8 hH hvs l9 hfit hrt hc
  have hpre : ∀ U : State, U.heap = H → s.WarmedH U.vm → sw_Pc G N S h (sw_r o :: vs) ((sw_r o :: vs).map (sw_v G)).toArray U := fun U hU hUW => ⟨rfl, State.WarmedH.trans x6 hUW, by rw [hU]; exact hW.1, fun q hq => by
    rw [hU, hW.2.2.1 q (by
      rcases Nat.lt_or_ge q s.heap.size with z | z
      · exact z
      · have h6 := x9 q hq
        rw [Array.getElem?_eq_none z, Array.getElem?_eq_getElem hq] at h6
        cases h6) (fun z : G.1.heap.size ≤ q => by omega)]
    exact x9 q hq, by rw [hU]; exact hsz⟩
  have hrec := va_recv (ci := ci) (q := (M2.1.cls, T, nn)) (sw_hK X) hW.1 hC.1 (q0 := o) (fs := sw_fs G (h o) 0 l) (by rw [sw_ws_get ho, hS, sw_ce_obj hC.2.2.2.2])
  have hcw0 : CallB R s args M.1.cls idx M2.1 M2.2.1 M2.2.2.1 M2.2.2.2 [.code M2.1 M2.2.1 M2.2.2.1 M2.2.2.2] (sw_rm d) 0 0 n := callB_of n hts (sw_good1 l5) rfl rfl rfl (hts _ l4) (hts _ l1) ⟨l6, l7, l8⟩ (sw_roomc (M2 := M2) x11 x12 l10)
  have hrun := va_runV (b := sw_ad G o) (As := vs.map (sw_v G)) (rest := st.map (sw_v G)) (g := F0 m pc A ((vs.reverse ++ sw_r o :: st).map (sw_v G))) (locs := locs) (e := e) (below := below) (meth := meth) (cells := cells) (slots := slots) ⟨x1, x2, x3, x4, hts⟩ hM ⟨hcw0, hts _ l2, hts _ l3⟩ ⟨sw_blind, hrec, hpre⟩ rfl (by simpa using hn) hR.1 (by simp [List.map_append, List.map_reverse, sw_v]) (lv_room (m := m) (pc := pc) (ls := A) (rest := []) hcat) hd ⟨x13, x14⟩
  exact sw_back hW hrun (fun r h' H1 locs1 hq ho hH1 hW1 => k r h' hq p l' e R s m args below meth c H1 locs1 cells slots F A X hW1 hH1 (fun v hv => (List.mem_append.mp hv).elim (ho v) (hst v)) hL hR hF')
theorem sx_callN {host : String} (hl : sw_LN M.1.cls idx M2 n host) {ci nn : Nat} {T : u_T} {ty : Nat → FieldType} {l : List Nat} (hC : sw_C ci M2.1.cls T nn ty) (hS : S o = some (ci, l)) (ho : o < N) (hd : decode M.2.1 pc = .ok (.invokevirtual idx, 3)) (hstk : stk = vs.reverse ++ sw_r o :: st) (hn : vs.length = n) (hcat : ((st.map (sw_v G)).map fun v => v.category).sum ≤ 8) (hfit : (lg_sl ((sw_r o :: vs).map (sw_v G))).length ≤ M2.2.2.1) (hrt : ∀ r h', Q2 r h' → sw_rt M2.2.2.2 r)
    (hc : sw_E G N S d M2 0 (sw_pad (sw_en (sw_r o :: vs)) M2.2.2.1) [] h Q2) (k : ∀ r h', Q2 r h' → sw_E G N S (d + 1) M (pc + 3) f (r.toList ++ st) h' Q) : sw_E G N S (d + 1) M pc f stk h Q := by
  subst hstk
  intro p l' e R s m args below meth c H locs cells slots F A X hW hH hs hL hR hF'
  refine sw_size X hW (fun hsz => ?_)
  have hts := sw_hts X args
  obtain ⟨x1, x2, x3, x4, x5, x6, x7, x8, x9, x10, x11, x12, x13, x14⟩ := id X
  obtain ⟨l1, l2, l3, l4, l5, ⟨l6, l7, l8⟩, l9, l10⟩ := hl
  have hvs : ∀ v ∈ (sw_r o :: vs), sw_ok v := by
    intro v hv
    rcases List.mem_cons.mp hv with rfl | hv
    · exact trivial
    · exact hs v (List.mem_append_left _ (List.mem_reverse.mpr hv))
  have hst : ∀ v ∈ st, sw_ok v := fun v hv => hs v (List.mem_append_right _ (List.mem_cons_of_mem _ hv))
  have hM := sw_met l' x7 x8 hH hvs l9 hfit hrt hc
  have hpre : ∀ U : State, U.heap = H → s.WarmedH U.vm → sw_Pc G N S h (sw_r o :: vs) ((sw_r o :: vs).map (sw_v G)).toArray U := fun U hU hUW => ⟨rfl, State.WarmedH.trans x6 hUW, by rw [hU]; exact hW.1, fun q hq => by
    rw [hU, hW.2.2.1 q (by
      rcases Nat.lt_or_ge q s.heap.size with z | z
      · exact z
      · have h6 := x9 q hq
        rw [Array.getElem?_eq_none z, Array.getElem?_eq_getElem hq] at h6
        cases h6) (fun z : G.1.heap.size ≤ q => by omega)]
    exact x9 q hq, by rw [hU]; exact hsz⟩
  have hrec := va_recv (ci := ci) (q := (M2.1.cls, T, nn)) (sw_hK X) hW.1 hC.1 (q0 := o) (fs := sw_fs G (h o) 0 l) (by rw [sw_ws_get ho, hS, sw_ce_obj hC.2.2.2.2])
  have hrun := va_runVN (b := sw_ad G o) (As := vs.map (sw_v G)) (rest := st.map (sw_v G)) (g := F0 m pc A ((vs.reverse ++ sw_r o :: st).map (sw_v G))) (locs := locs) (e := e) (below := below) (meth := meth) (cells := cells) (slots := slots) ⟨x1, x2, x3, x4, hts⟩ hM ⟨va_cnB n hts (sw_good1 l5) rfl rfl rfl (sw_nestM X l1) (hts _ l4) ⟨l6, l7, l8⟩ (sw_roomc (M2 := M2) x11 x12 l10), hts _ l2, hts _ l3⟩ ⟨sw_blind, hrec, hpre⟩ rfl (by simpa using hn) hR.1 (by simp [List.map_append, List.map_reverse, sw_v]) (lv_room (m := m) (pc := pc) (ls := A) (rest := []) hcat) hd ⟨x13, x14⟩
  exact sw_back hW hrun (fun r h' H1 locs1 hq ho hH1 hW1 => k r h' hq p l' e R s m args below meth c H1 locs1 cells slots F A X hW1 hH1 (fun v hv => (List.mem_append.mp hv).elim (ho v) (hst v)) hL hR hF')
theorem sx_callS (hl : sw_LS M.1.cls idx M2 n) (hd : decode M.2.1 pc = .ok (.invokestatic idx, 3)) (hstk : stk = vs.reverse ++ st) (hn : vs.length = n) (hcat : ((st.map (sw_v G)).map fun v => v.category).sum ≤ 8) (hfit : (lg_sl (vs.map (sw_v G))).length ≤ M2.2.2.1) (hrt : ∀ r h', Q2 r h' → sw_rt M2.2.2.2 r)
    (hc : sw_E G N S d M2 0 (sw_pad (sw_en vs) M2.2.2.1) [] h Q2) (k : ∀ r h', Q2 r h' → sw_E G N S (d + 1) M (pc + 3) f (r.toList ++ st) h' Q) : sw_E G N S (d + 1) M pc f stk h Q := by
  subst hstk
  intro p l' e R s m args below meth c H locs cells slots F A X hW hH hs hL hR hF'
  refine sw_size X hW (fun hsz => ?_)
  have hts := sw_hts X args
  obtain ⟨x1, x2, x3, x4, x5, x6, x7, x8, x9, x10, x11, x12, x13, x14⟩ := id X
  obtain ⟨l1, l2, l4, l5, ⟨l6, l7, l8⟩, l9, l10⟩ := hl
  have hvs : ∀ v ∈ vs, sw_ok v := by
    intro v hv
    exact hs v (List.mem_append_left _ (List.mem_reverse.mpr hv))
  have hst : ∀ v ∈ st, sw_ok v := fun v hv => hs v (List.mem_append_right _ hv)
  have hM := sw_met l' x7 x8 hH hvs l9 hfit hrt hc
  have hpre : ∀ U : State, U.heap = H → s.WarmedH U.vm → sw_Pc G N S h vs (vs.map (sw_v G)).toArray U := fun U hU hUW => ⟨rfl, State.WarmedH.trans x6 hUW, by rw [hU]; exact hW.1, fun q hq => by
    rw [hU, hW.2.2.1 q (by
      rcases Nat.lt_or_ge q s.heap.size with z | z
      · exact z
      · have h6 := x9 q hq
        rw [Array.getElem?_eq_none z, Array.getElem?_eq_getElem hq] at h6
        cases h6) (fun z : G.1.heap.size ≤ q => by omega)]
    exact x9 q hq, by rw [hU]; exact hsz⟩
  have hcw0 : CallB R s args M.1.cls idx M2.1 M2.2.1 M2.2.2.1 M2.2.2.2 [.code M2.1 M2.2.1 M2.2.2.1 M2.2.2.2] (sw_rm d) 0 0 n := callB_of n hts (sw_good1 l5) rfl rfl rfl (hts _ l4) (hts _ l1) ⟨l6, l7, l8⟩ (sw_roomc (M2 := M2) x11 x12 l10)
  have hrun := va_runS (As := vs.map (sw_v G)) (rest := st.map (sw_v G)) (g := F0 m pc A ((vs.reverse ++ st).map (sw_v G))) (locs := locs) (e := e) (below := below) (meth := meth) (cells := cells) (slots := slots) ⟨x1, x2, x3, x4, hts⟩ hM ⟨hcw0, hts _ l2⟩ ⟨sw_blind, hpre⟩ rfl (by simpa using hn) hR.1 (by simp [List.map_append, List.map_reverse, sw_v]) (lv_room (m := m) (pc := pc) (ls := A) (rest := []) hcat) hd ⟨x13, x14⟩
  exact sw_back hW hrun (fun r h' H1 locs1 hq ho hH1 hW1 => k r h' hq p l' e R s m args below meth c H1 locs1 cells slots F A X hW1 hH1 (fun v hv => (List.mem_append.mp hv).elim (ho v) (hst v)) hL hR hF')
theorem sx_callVv {P : sw_H → Prop} (hl : sw_LV M.1.cls idx M2 n) {ci nn : Nat} {T : u_T} {ty : Nat → FieldType} {l : List Nat} (hC : sw_C ci M2.1.cls T nn ty) (hS : S o = some (ci, l)) (ho : o < N) (hd : decode M.2.1 pc = .ok (.invokevirtual idx, 3)) (hstk : stk = vs.reverse ++ sw_r o :: st) (hn : vs.length = n) (hcat : ((st.map (sw_v G)).map fun v => v.category).sum ≤ 8) (hfit : (lg_sl ((sw_r o :: vs).map (sw_v G))).length ≤ M2.2.2.1) (hrt : M2.2.2.2 = none)
    (hc : sw_E G N S d M2 0 (sw_pad (sw_en (sw_r o :: vs)) M2.2.2.1) [] h (sw_Qv P)) (k : ∀ h', P h' → sw_E G N S (d + 1) M (pc + 3) f st h' Q) : sw_E G N S (d + 1) M pc f stk h Q :=
  sx_callV hl hC hS ho hd hstk hn hcat hfit (by rintro r h' ⟨rfl, -⟩; rw [hrt]; trivial) hc (by rintro r h' ⟨rfl, hp⟩; exact k h' hp)
theorem sx_callVi {P : Int → sw_H → Prop} (hl : sw_LV M.1.cls idx M2 n) {ci nn : Nat} {T : u_T} {ty : Nat → FieldType} {l : List Nat} (hC : sw_C ci M2.1.cls T nn ty) (hS : S o = some (ci, l)) (ho : o < N) (hd : decode M.2.1 pc = .ok (.invokevirtual idx, 3)) (hstk : stk = vs.reverse ++ sw_r o :: st) (hn : vs.length = n) (hcat : ((st.map (sw_v G)).map fun v => v.category).sum ≤ 8) (hfit : (lg_sl ((sw_r o :: vs).map (sw_v G))).length ≤ M2.2.2.1) (hrt : M2.2.2.2 = some .int)
    (hc : sw_E G N S d M2 0 (sw_pad (sw_en (sw_r o :: vs)) M2.2.2.1) [] h (sw_Qi P)) (k : ∀ z h', P z h' → sw_E G N S (d + 1) M (pc + 3) f (sw_i z :: st) h' Q) : sw_E G N S (d + 1) M pc f stk h Q :=
  sx_callV hl hC hS ho hd hstk hn hcat hfit (by rintro r h' ⟨z, rfl, -⟩; rw [hrt]; trivial) hc (by rintro r h' ⟨z, rfl, hp⟩; exact k z h' hp)
theorem sx_callVz {P : Int → sw_H → Prop} (hl : sw_LV M.1.cls idx M2 n) {ci nn : Nat} {T : u_T} {ty : Nat → FieldType} {l : List Nat} (hC : sw_C ci M2.1.cls T nn ty) (hS : S o = some (ci, l)) (ho : o < N) (hd : decode M.2.1 pc = .ok (.invokevirtual idx, 3)) (hstk : stk = vs.reverse ++ sw_r o :: st) (hn : vs.length = n) (hcat : ((st.map (sw_v G)).map fun v => v.category).sum ≤ 8) (hfit : (lg_sl ((sw_r o :: vs).map (sw_v G))).length ≤ M2.2.2.1) (hrt : M2.2.2.2 = some .boolean)
    (hc : sw_E G N S d M2 0 (sw_pad (sw_en (sw_r o :: vs)) M2.2.2.1) [] h (sw_Qz P)) (k : ∀ z h', z = 0 ∨ z = 1 → P z h' → sw_E G N S (d + 1) M (pc + 3) f (sw_i z :: st) h' Q) : sw_E G N S (d + 1) M pc f stk h Q :=
  sx_callV hl hC hS ho hd hstk hn hcat hfit (by rintro r h' ⟨z, rfl, hz, -⟩; rw [hrt]; exact hz) hc (by rintro r h' ⟨z, rfl, hz, hp⟩; exact k z h' hz hp)
theorem sx_callVr {P : Nat → sw_H → Prop} (hl : sw_LV M.1.cls idx M2 n) {ci nn : Nat} {T : u_T} {ty : Nat → FieldType} {l : List Nat} (hC : sw_C ci M2.1.cls T nn ty) (hS : S o = some (ci, l)) (ho : o < N) (hd : decode M.2.1 pc = .ok (.invokevirtual idx, 3)) (hstk : stk = vs.reverse ++ sw_r o :: st) (hn : vs.length = n) (hcat : ((st.map (sw_v G)).map fun v => v.category).sum ≤ 8) (hfit : (lg_sl ((sw_r o :: vs).map (sw_v G))).length ≤ M2.2.2.1) (hrt : ∃ q, M2.2.2.2 = some (.object q))
    (hc : sw_E G N S d M2 0 (sw_pad (sw_en (sw_r o :: vs)) M2.2.2.1) [] h (sw_Qr P)) (k : ∀ a h', P a h' → sw_E G N S (d + 1) M (pc + 3) f (sw_r a :: st) h' Q) : sw_E G N S (d + 1) M pc f stk h Q :=
  sx_callV hl hC hS ho hd hstk hn hcat hfit (by obtain ⟨q, hrt⟩ := hrt; rintro r h' ⟨z, rfl, -⟩; rw [hrt]; trivial) hc (by rintro r h' ⟨z, rfl, hp⟩; exact k z h' hp)
theorem sx_callNv {P : sw_H → Prop} {host : String} (hl : sw_LN M.1.cls idx M2 n host) {ci nn : Nat} {T : u_T} {ty : Nat → FieldType} {l : List Nat} (hC : sw_C ci M2.1.cls T nn ty) (hS : S o = some (ci, l)) (ho : o < N) (hd : decode M.2.1 pc = .ok (.invokevirtual idx, 3)) (hstk : stk = vs.reverse ++ sw_r o :: st) (hn : vs.length = n) (hcat : ((st.map (sw_v G)).map fun v => v.category).sum ≤ 8) (hfit : (lg_sl ((sw_r o :: vs).map (sw_v G))).length ≤ M2.2.2.1) (hrt : M2.2.2.2 = none)
    (hc : sw_E G N S d M2 0 (sw_pad (sw_en (sw_r o :: vs)) M2.2.2.1) [] h (sw_Qv P)) (k : ∀ h', P h' → sw_E G N S (d + 1) M (pc + 3) f st h' Q) : sw_E G N S (d + 1) M pc f stk h Q :=
  sx_callN hl hC hS ho hd hstk hn hcat hfit (by rintro r h' ⟨rfl, -⟩; rw [hrt]; trivial) hc (by rintro r h' ⟨rfl, hp⟩; exact k h' hp)
theorem sx_callNi {P : Int → sw_H → Prop} {host : String} (hl : sw_LN M.1.cls idx M2 n host) {ci nn : Nat} {T : u_T} {ty : Nat → FieldType} {l : List Nat} (hC : sw_C ci M2.1.cls T nn ty) (hS : S o = some (ci, l)) (ho : o < N) (hd : decode M.2.1 pc = .ok (.invokevirtual idx, 3)) (hstk : stk = vs.reverse ++ sw_r o :: st) (hn : vs.length = n) (hcat : ((st.map (sw_v G)).map fun v => v.category).sum ≤ 8) (hfit : (lg_sl ((sw_r o :: vs).map (sw_v G))).length ≤ M2.2.2.1) (hrt : M2.2.2.2 = some .int)
    (hc : sw_E G N S d M2 0 (sw_pad (sw_en (sw_r o :: vs)) M2.2.2.1) [] h (sw_Qi P)) (k : ∀ z h', P z h' → sw_E G N S (d + 1) M (pc + 3) f (sw_i z :: st) h' Q) : sw_E G N S (d + 1) M pc f stk h Q :=
  sx_callN hl hC hS ho hd hstk hn hcat hfit (by rintro r h' ⟨z, rfl, -⟩; rw [hrt]; trivial) hc (by rintro r h' ⟨z, rfl, hp⟩; exact k z h' hp)
theorem sx_callNz {P : Int → sw_H → Prop} {host : String} (hl : sw_LN M.1.cls idx M2 n host) {ci nn : Nat} {T : u_T} {ty : Nat → FieldType} {l : List Nat} (hC : sw_C ci M2.1.cls T nn ty) (hS : S o = some (ci, l)) (ho : o < N) (hd : decode M.2.1 pc = .ok (.invokevirtual idx, 3)) (hstk : stk = vs.reverse ++ sw_r o :: st) (hn : vs.length = n) (hcat : ((st.map (sw_v G)).map fun v => v.category).sum ≤ 8) (hfit : (lg_sl ((sw_r o :: vs).map (sw_v G))).length ≤ M2.2.2.1) (hrt : M2.2.2.2 = some .boolean)
    (hc : sw_E G N S d M2 0 (sw_pad (sw_en (sw_r o :: vs)) M2.2.2.1) [] h (sw_Qz P)) (k : ∀ z h', z = 0 ∨ z = 1 → P z h' → sw_E G N S (d + 1) M (pc + 3) f (sw_i z :: st) h' Q) : sw_E G N S (d + 1) M pc f stk h Q :=
  sx_callN hl hC hS ho hd hstk hn hcat hfit (by rintro r h' ⟨z, rfl, hz, -⟩; rw [hrt]; exact hz) hc (by rintro r h' ⟨z, rfl, hz, hp⟩; exact k z h' hz hp)
theorem sx_callNr {P : Nat → sw_H → Prop} {host : String} (hl : sw_LN M.1.cls idx M2 n host) {ci nn : Nat} {T : u_T} {ty : Nat → FieldType} {l : List Nat} (hC : sw_C ci M2.1.cls T nn ty) (hS : S o = some (ci, l)) (ho : o < N) (hd : decode M.2.1 pc = .ok (.invokevirtual idx, 3)) (hstk : stk = vs.reverse ++ sw_r o :: st) (hn : vs.length = n) (hcat : ((st.map (sw_v G)).map fun v => v.category).sum ≤ 8) (hfit : (lg_sl ((sw_r o :: vs).map (sw_v G))).length ≤ M2.2.2.1) (hrt : ∃ q, M2.2.2.2 = some (.object q))
    (hc : sw_E G N S d M2 0 (sw_pad (sw_en (sw_r o :: vs)) M2.2.2.1) [] h (sw_Qr P)) (k : ∀ a h', P a h' → sw_E G N S (d + 1) M (pc + 3) f (sw_r a :: st) h' Q) : sw_E G N S (d + 1) M pc f stk h Q :=
  sx_callN hl hC hS ho hd hstk hn hcat hfit (by obtain ⟨q, hrt⟩ := hrt; rintro r h' ⟨z, rfl, -⟩; rw [hrt]; trivial) hc (by rintro r h' ⟨z, rfl, hp⟩; exact k z h' hp)
theorem sx_callSv {P : sw_H → Prop} (hl : sw_LS M.1.cls idx M2 n) (hd : decode M.2.1 pc = .ok (.invokestatic idx, 3)) (hstk : stk = vs.reverse ++ st) (hn : vs.length = n) (hcat : ((st.map (sw_v G)).map fun v => v.category).sum ≤ 8) (hfit : (lg_sl (vs.map (sw_v G))).length ≤ M2.2.2.1) (hrt : M2.2.2.2 = none)
    (hc : sw_E G N S d M2 0 (sw_pad (sw_en vs) M2.2.2.1) [] h (sw_Qv P)) (k : ∀ h', P h' → sw_E G N S (d + 1) M (pc + 3) f st h' Q) : sw_E G N S (d + 1) M pc f stk h Q :=
  sx_callS hl hd hstk hn hcat hfit (by rintro r h' ⟨rfl, -⟩; rw [hrt]; trivial) hc (by rintro r h' ⟨rfl, hp⟩; exact k h' hp)
theorem sx_callSi {P : Int → sw_H → Prop} (hl : sw_LS M.1.cls idx M2 n) (hd : decode M.2.1 pc = .ok (.invokestatic idx, 3)) (hstk : stk = vs.reverse ++ st) (hn : vs.length = n) (hcat : ((st.map (sw_v G)).map fun v => v.category).sum ≤ 8) (hfit : (lg_sl (vs.map (sw_v G))).length ≤ M2.2.2.1) (hrt : M2.2.2.2 = some .int)
    (hc : sw_E G N S d M2 0 (sw_pad (sw_en vs) M2.2.2.1) [] h (sw_Qi P)) (k : ∀ z h', P z h' → sw_E G N S (d + 1) M (pc + 3) f (sw_i z :: st) h' Q) : sw_E G N S (d + 1) M pc f stk h Q :=
  sx_callS hl hd hstk hn hcat hfit (by rintro r h' ⟨z, rfl, -⟩; rw [hrt]; trivial) hc (by rintro r h' ⟨z, rfl, hp⟩; exact k z h' hp)
theorem sx_callSz {P : Int → sw_H → Prop} (hl : sw_LS M.1.cls idx M2 n) (hd : decode M.2.1 pc = .ok (.invokestatic idx, 3)) (hstk : stk = vs.reverse ++ st) (hn : vs.length = n) (hcat : ((st.map (sw_v G)).map fun v => v.category).sum ≤ 8) (hfit : (lg_sl (vs.map (sw_v G))).length ≤ M2.2.2.1) (hrt : M2.2.2.2 = some .boolean)
    (hc : sw_E G N S d M2 0 (sw_pad (sw_en vs) M2.2.2.1) [] h (sw_Qz P)) (k : ∀ z h', z = 0 ∨ z = 1 → P z h' → sw_E G N S (d + 1) M (pc + 3) f (sw_i z :: st) h' Q) : sw_E G N S (d + 1) M pc f stk h Q :=
  sx_callS hl hd hstk hn hcat hfit (by rintro r h' ⟨z, rfl, hz, -⟩; rw [hrt]; exact hz) hc (by rintro r h' ⟨z, rfl, hz, hp⟩; exact k z h' hz hp)
theorem sx_callSr {P : Nat → sw_H → Prop} (hl : sw_LS M.1.cls idx M2 n) (hd : decode M.2.1 pc = .ok (.invokestatic idx, 3)) (hstk : stk = vs.reverse ++ st) (hn : vs.length = n) (hcat : ((st.map (sw_v G)).map fun v => v.category).sum ≤ 8) (hfit : (lg_sl (vs.map (sw_v G))).length ≤ M2.2.2.1) (hrt : ∃ q, M2.2.2.2 = some (.object q))
    (hc : sw_E G N S d M2 0 (sw_pad (sw_en vs) M2.2.2.1) [] h (sw_Qr P)) (k : ∀ a h', P a h' → sw_E G N S (d + 1) M (pc + 3) f (sw_r a :: st) h' Q) : sw_E G N S (d + 1) M pc f stk h Q :=
  sx_callS hl hd hstk hn hcat hfit (by obtain ⟨q, hrt⟩ := hrt; rintro r h' ⟨z, rfl, -⟩; rw [hrt]; trivial) hc (by rintro r h' ⟨z, rfl, hp⟩; exact k z h' hp)
theorem sx_max {x y : Int} (hl : Cond.methodLink M.1.cls idx Lib.Math.max.name ∈ gtb) (hw : Cond.static Lib.Math.max.name ∈ gtb ∧ Cond.initialized "java/lang/Math" ∈ gtb ∧ Cond.code Lib.Math.max.name Lib.Math.max.code 2 (some .int) ∈ gtb) (hd : decode M.2.1 pc = .ok (.invokestatic idx, 3)) (hcat : ((st.map (sw_v G)).map fun v => v.category).sum ≤ 8)
    (k : sw_E G N S (d + 1) M (pc + 3) f (sw_i (if x < y then y else x) :: st) h Q) : sw_E G N S (d + 1) M pc f (sw_i y :: sw_i x :: st) h Q := by
  intro p l' e R s m args below meth c H locs cells slots F A X hW hH hs hL hR hF'
  have hts := sw_hts X args
  have ox : sw_ok32 x := sw_okh (sw_okt hs)
  have oy : sw_ok32 y := sw_okh hs
  obtain ⟨x1, x2, x3, x4, x5, x6, x7, x8, x9, x10, x11, x12, x13, x14⟩ := id X
  have k1 := k p l' e R s m args below meth c H locs cells slots F A X hW hH (sw_okc (v := sw_i _) (by show sw_ok32 _; split <;> assumption) (sw_okt (sw_okt hs))) hL hR hF'
  refine va_mmax x1 x2 (x3.trans hR.1.symm) x4 (hts _ hl) (hts _ hw.1) (hts _ hw.2.1) (hts _ hw.2.2) (by omega) (by omega) x13 x14 hd ?_
  have e1 : Int32.ofInt (if x < y then y else x) = if Int32.ofInt x < Int32.ofInt y then Int32.ofInt y else Int32.ofInt x := by
    simp only [sw_lt ox oy]
    split <;> rfl
  simp only [List.map_cons, sw_v, e1] at k1
  exact k1
theorem sx_min {x y : Int} (hl : Cond.methodLink M.1.cls idx Lib.Math.min.name ∈ gtb) (hw : Cond.static Lib.Math.min.name ∈ gtb ∧ Cond.initialized "java/lang/Math" ∈ gtb ∧ Cond.code Lib.Math.min.name Lib.Math.min.code 2 (some .int) ∈ gtb) (hd : decode M.2.1 pc = .ok (.invokestatic idx, 3)) (hcat : ((st.map (sw_v G)).map fun v => v.category).sum ≤ 8)
    (k : sw_E G N S (d + 1) M (pc + 3) f (sw_i (if y < x then y else x) :: st) h Q) : sw_E G N S (d + 1) M pc f (sw_i y :: sw_i x :: st) h Q := by
  intro p l' e R s m args below meth c H locs cells slots F A X hW hH hs hL hR hF'
  have hts := sw_hts X args
  have ox : sw_ok32 x := sw_okh (sw_okt hs)
  have oy : sw_ok32 y := sw_okh hs
  obtain ⟨x1, x2, x3, x4, x5, x6, x7, x8, x9, x10, x11, x12, x13, x14⟩ := id X
  have k1 := k p l' e R s m args below meth c H locs cells slots F A X hW hH (sw_okc (v := sw_i _) (by show sw_ok32 _; split <;> assumption) (sw_okt (sw_okt hs))) hL hR hF'
  refine va_mmin x1 x2 (x3.trans hR.1.symm) x4 (hts _ hl) (hts _ hw.1) (hts _ hw.2.1) (hts _ hw.2.2) (by omega) (by omega) x13 x14 hd ?_
  have e1 : Int32.ofInt (if y < x then y else x) = if Int32.ofInt y < Int32.ofInt x then Int32.ofInt y else Int32.ofInt x := by
    simp only [sw_lt oy ox]
    split <;> rfl
  simp only [List.map_cons, sw_v, e1] at k1
  exact k1
end CALLS

-- ===== the world as cells; the judgement sw_E =====
abbrev sw_B (G : sw_G) : Nat → Prop := fun q => G.1.heap.size ≤ q
abbrev sw_ty (G : sw_G) : List (ClassId × FieldType) := [(G.2.2.1 0, .int), (G.2.2.1 1, .byte), (G.2.2.1 2, .boolean), (G.2.2.1 3, .long), (G.2.2.1 4, .object "StackWords$State")]
theorem sw_ws_get {G : sw_G} {N : Nat} {S : sw_S} {h : sw_H} {a : Nat} (ha : a < N) : (sw_ws G N S h)[a]? = some (sw_ad G a, sw_ce G (h a) (S a)) := by
  unfold sw_ws
  rw [List.getElem?_map, List.getElem?_range ha]
  rfl
theorem sw_ws_set {G : sw_G} {N : Nat} {S : sw_S} {h h' : sw_H} {a : Nat} {e : va_E} (ha : a < N) (he : e = sw_ce G (h' a) (S a)) (hb : ∀ b, b ≠ a → h' b = h b) : (sw_ws G N S h).set a (sw_ad G a, e) = sw_ws G N S h' := by
  apply List.ext_getElem?
  intro k
  by_cases hk : k = a
  · subst hk
    rw [List.getElem?_set_self (by simp [sw_ws, ha]), sw_ws_get ha, he]
  · rw [List.getElem?_set_ne (Ne.symm hk)]
    by_cases hn : k < N
    · rw [sw_ws_get hn, sw_ws_get hn, hb k hk]
    · rw [List.getElem?_eq_none (by simp [sw_ws]; omega), List.getElem?_eq_none (by simp [sw_ws]; omega)]
theorem sw_ws_at {G : sw_G} {N : Nat} {S : sw_S} {h : sw_H} {k : Nat} {q : Nat × va_E} (hk : (sw_ws G N S h)[k]? = some q) : k < N ∧ q = (sw_ad G k, sw_ce G (h k) (S k)) := by
  have hl : k < N := by
    have := (List.getElem?_eq_some_iff.mp hk).1
    simpa [sw_ws] using this
  rw [sw_ws_get hl] at hk
  exact ⟨hl, (Option.some.inj hk).symm⟩
theorem sw_D {G : sw_G} {N : Nat} {S : sw_S} {h : sw_H} (hN : N ≤ 100000) : va_D (sw_B G) (sw_ws G N S h) := by
  refine ⟨fun i j p q hi hj e => ?_, fun k q hk => ?_⟩
  · obtain ⟨l1, rfl⟩ := sw_ws_at hi
    obtain ⟨l2, rfl⟩ := sw_ws_at hj
    simp only [sw_ad, if_pos (show i < 100000 by omega), if_pos (show j < 100000 by omega)] at e
    omega
  · obtain ⟨l1, rfl⟩ := sw_ws_at hk
    simp only [sw_ad, if_pos (show k < 100000 by omega), sw_B]
    omega
/-- what the launch's tables say at the law's entry -/
def sw_sn (t : Nat) : String := if t = 0 then "OFF" else if t = 1 then "ON" else "SHUFFLED"
def sw_sdl (t : Nat) : List Int := if t = 0 then [1, 1, 2, 2, 3, 2, 2, 1, 0, 2, 2, 2, 1, 2, 2] else if t = 1 then [2, 0, 2, 3, 3, 1, 3, 0, 1, 1, 1, 1, 1, 1, 1] else [0, 0, 0, 0, 0, 0, 0, 1, 0, 1, 0, 1, 1, 0, 2, 0, 0, 0, 0, 1, 0]
def sw_sd (t i : Nat) : Int := (sw_sdl t).getD i 0
/-- the class's two texts, the statics that the JDK's String reads -/
def sw_Tx (G : sw_G) : Prop := (∃ tx, vk_R "StackWords$Scanner" 87 tx (G.2.2.2 100003) G.1) ∧ (∃ tx, vk_R "StackWords$Scanner" 73 tx (G.2.2.2 100004) G.1) ∧ (∃ byt, vk_S 2 [145, 11] byt (fun i => G.2.2.2 (100003 + i)) (fun i => G.2.2.2 (100005 + i)) (sw_B G) G.1 G.1.heap) ∧ va_Z "java/lang/String" "COMPACT_STRINGS" "Z" (.int 1) (sw_B G) G.1 G.1.heap ∧ va_Zq "jdk/internal/util/Preconditions" "SIOOBE_FORMATTER" "Ljava/util/function/BiFunction;" (sw_B G) G.1 G.1.heap
def sw_Gf (G : sw_G) : Prop := (∃ A0 : Array Value, ∀ w ∈ lw_tbl, w.before A0 G.1 = true) ∧ va_K G.2.1 vwCl (sw_ty G) G.1 ∧ (∀ t, t < 3 → va_Z "StackWords" (sw_sn t) "[I" (.ref (G.2.2.2 (100000 + t))) (sw_B G) G.1 G.1.heap ∧ va_X (G.2.2.2 (100000 + t)) (sw_sdl t).length (fun i => Int32.ofInt (sw_sd t i)) G.1 G.1.heap ∧ G.2.2.2 (100000 + t) < G.1.heap.size) ∧ sw_Tx G
def sw_X (G : sw_G) (N d : Nat) (p : Program) (R : Room) (s : State) (m : MethodId) (meth : Method) (c : Code) (M : sw_M) (cells slots : Nat) : Prop :=
  p.tables.exec = Jvm.exec ∧ c.code = M.2.1 ∧ c.maxLocals = M.2.2.1 ∧ s.vm.findClass M.1.cls = some m.cls ∧ meth.locks = false ∧ G.1.WarmedH s.vm ∧ sw_Gf G ∧ N ≤ 100000 ∧ (∀ q : Nat, q < G.1.heap.size → s.heap[q]? = G.1.heap[q]?) ∧ s.heap.size + cells = G.1.heap.size + N ∧ d ≤ R.frames ∧ 64 * d ≤ R.locals ∧ cells ≤ R.cells ∧ slots ≤ R.slots
def sw_W (G : sw_G) (N : Nat) (S : sw_S) (h : sw_H) (s : State) (H : Heap) (locs : List Loc) : Prop :=
  va_P G.2.1 vwCl (sw_ws G N S h) H ∧ va_S (sw_B G) s.heap H locs
def sw_ri : Option sw_V → Instr
  | none => .return_
  | some (.inl _) => .ireturn
  | some (.inr (.inl _)) => .lreturn
  | some (.inr (.inr _)) => .areturn
/-- the small machine, in method M at pc, comes to a return with Q: over the kit's machine, whatever goes on behind the return -/
def sw_E (G : sw_G) (N : Nat) (S : sw_S) (d : Nat) (M : sw_M) (pc : Nat) (f : sw_L) (st : List sw_V) (h : sw_H) (Q : Option sw_V → sw_H → Prop) : Prop :=
  ∀ (p : Program) (l : Launch) (e : Env) (R : Room) (s : State) (m : MethodId) (args : Array Value) (below : List Frame) (meth : Method) (c : Code) (H : Heap) (locs : List Loc) (cells slots : Nat) (F : State → Prop) (A : Array Slot),
    sw_X G N d p R s m meth c M cells slots → sw_W G N S h s H locs → sw_okH S h → (∀ v ∈ st, sw_ok v) → (∀ (j : Nat) (v : sw_V), sw_g f j = some v → sw_ok v) → sw_R G A M.2.2.1 f →
    (∀ (pc' : Nat) (A' : Array Slot) (H' : Heap) (locs' : List Loc) (r : Option sw_V) (h' : sw_H), decode M.2.1 pc' = .ok (sw_ri r, 1) → Q r h' → (∀ v ∈ r.toList, sw_ok v) → sw_okH S h' → sw_W G N S h' s H' locs' →
      W p l e R s m args below meth c H' locs' cells slots F (F0 m pc' A' (r.toList.map (sw_v G)))) →
    W p l e R s m args below meth c H locs cells slots F (F0 m pc A (st.map (sw_v G)))
theorem sw_E.mono {G : sw_G} {N : Nat} {S : sw_S} {d : Nat} {M : sw_M} {pc : Nat} {f : sw_L} {st : List sw_V} {h : sw_H} {Q Q2 : Option sw_V → sw_H → Prop} (k : sw_E G N S d M pc f st h Q) (hq : ∀ r h', Q r h' → Q2 r h') : sw_E G N S d M pc f st h Q2 := by
  intro p l e R s m args below meth c H locs cells slots F A X hW hH hS hL hR hF
  exact k p l e R s m args below meth c H locs cells slots F A X hW hH hS hL hR (fun pc' A' H' locs' r h' a b => hF pc' A' H' locs' r h' a (hq r h' b))
theorem sw_E.deeper {G : sw_G} {N : Nat} {S : sw_S} {d d2 : Nat} {M : sw_M} {pc : Nat} {f : sw_L} {st : List sw_V} {h : sw_H} {Q : Option sw_V → sw_H → Prop} (k : sw_E G N S d M pc f st h Q) (hd : d ≤ d2) : sw_E G N S d2 M pc f st h Q := by
  intro p l e R s m args below meth c H locs cells slots F A X
  obtain ⟨x1, x2, x3, x4, x5, x6, x7, x8, x9, x10, x11, x12, x13⟩ := X
  exact k p l e R s m args below meth c H locs cells slots F A ⟨x1, x2, x3, x4, x5, x6, x7, x8, x9, x10, by omega, by omega, x13⟩
section RULES
variable {G : sw_G} {N : Nat} {S : sw_S} {d : Nat} {M : sw_M} {pc : Nat} {f : sw_L} {st : List sw_V} {h : sw_H} {Q : Option sw_V → sw_H → Prop}
/-- a step that moves the stack alone -/
theorem sx_go {pc2 : Nat} {st2 : List sw_V} (hok : (∀ v ∈ st, sw_ok v) → (∀ (j : Nat) (v : sw_V), sw_g f j = some v → sw_ok v) → ∀ v ∈ st2, sw_ok v)
    (step : ∀ {p : Program} {l : Launch} {e : Env} {R : Room} {s : State} {m : MethodId} {args : Array Value} {below : List Frame} {meth : Method} {c : Code} {H : Heap} {locs : List Loc} {cells slots : Nat} {F : State → Prop} {A : Array Slot},
      p.tables.exec = Jvm.exec → c.code = M.2.1 → (∀ v ∈ st, sw_ok v) → sw_R G A M.2.2.1 f → W p l e R s m args below meth c H locs cells slots F (F0 m pc2 A (st2.map (sw_v G))) → W p l e R s m args below meth c H locs cells slots F (F0 m pc A (st.map (sw_v G))))
    (k : sw_E G N S d M pc2 f st2 h Q) : sw_E G N S d M pc f st h Q := by
  intro p l e R s m args below meth c H locs cells slots F A X hW hH hS hL hR hF
  exact step X.1 X.2.1 hS hR (k p l e R s m args below meth c H locs cells slots F A X hW hH (hok hS hL) hL hR hF)
theorem sx_iconst {n : Int} (hd : decode M.2.1 pc = .ok (.iconst n, 1)) (hn : sw_ok32 n) (k : sw_E G N S d M (pc + 1) f (sw_i n :: st) h Q) : sw_E G N S d M pc f st h Q :=
  sx_go (fun hs _ => by simpa using ⟨hn, hs⟩) (fun hx hb _ _ k => lv_iconst hx hb hd rfl k) k
theorem sx_bipush {n : Int} (hd : decode M.2.1 pc = .ok (.bipush n, 2)) (hn : (Int8.ofInt n).toInt32 = Int32.ofInt n ∧ -128 ≤ n ∧ n ≤ 127) (k : sw_E G N S d M (pc + 2) f (sw_i n :: st) h Q) : sw_E G N S d M pc f st h Q :=
  sx_go (fun hs _ => by
    have : sw_ok (sw_i n) := by show sw_ok32 n; unfold sw_ok32; omega
    simpa using ⟨this, hs⟩) (fun hx hb _ _ k => lv_bipush hx hb hd hn.1 k) k
theorem sx_sipush {n : Int} (hd : decode M.2.1 pc = .ok (.sipush n, 3)) (hn : (Int16.ofInt n).toInt32 = Int32.ofInt n ∧ -32768 ≤ n ∧ n ≤ 32767) (k : sw_E G N S d M (pc + 3) f (sw_i n :: st) h Q) : sw_E G N S d M pc f st h Q :=
  sx_go (fun hs _ => by
    have : sw_ok (sw_i n) := by show sw_ok32 n; unfold sw_ok32; omega
    simpa using ⟨this, hs⟩) (fun hx hb _ _ k => lv_sipush hx hb hd hn.1 k) k
theorem sx_iload_n {i : Fin 4} {x : Int} (hd : decode M.2.1 pc = .ok (.iload_n i, 1)) (hl : sw_g f i = some (sw_i x)) (k : sw_E G N S d M (pc + 1) f (sw_i x :: st) h Q) : sw_E G N S d M pc f st h Q :=
  sx_go (fun hs hL => by simpa using ⟨hL _ _ hl, hs⟩) (fun hx hb _ hR k => lv_iload_n hx hb hd rfl (hR.2.2 _ _ hl) k) k
theorem sx_iload {i : Nat} {x : Int} (hd : decode M.2.1 pc = .ok (.iload i, 2)) (hl : sw_g f i = some (sw_i x)) (k : sw_E G N S d M (pc + 2) f (sw_i x :: st) h Q) : sw_E G N S d M pc f st h Q :=
  sx_go (fun hs hL => by simpa using ⟨hL _ _ hl, hs⟩) (fun hx hb _ hR k => lv_iload hx hb hd (hR.2.2 _ _ hl) k) k
theorem sx_aload_n {i : Fin 4} {x : Nat} (hd : decode M.2.1 pc = .ok (.aload_n i, 1)) (hl : sw_g f i = some (sw_r x)) (k : sw_E G N S d M (pc + 1) f (sw_r x :: st) h Q) : sw_E G N S d M pc f st h Q :=
  sx_go (fun hs hL => by simpa using ⟨hL _ _ hl, hs⟩) (fun hx hb _ hR k => lv_aload_n hx hb hd rfl (hR.2.2 _ _ hl) k) k
theorem sx_aload {i : Nat} {x : Nat} (hd : decode M.2.1 pc = .ok (.aload i, 2)) (hl : sw_g f i = some (sw_r x)) (k : sw_E G N S d M (pc + 2) f (sw_r x :: st) h Q) : sw_E G N S d M pc f st h Q :=
  sx_go (fun hs hL => by simpa using ⟨hL _ _ hl, hs⟩) (fun hx hb _ hR k => lv_aload hx hb hd (hR.2.2 _ _ hl) k) k
theorem sx_lload_n {i : Fin 4} {x : Int} (hd : decode M.2.1 pc = .ok (.lload_n i, 1)) (hl : sw_g f i = some (sw_l x)) (k : sw_E G N S d M (pc + 1) f (sw_l x :: st) h Q) : sw_E G N S d M pc f st h Q :=
  sx_go (fun hs hL => by simpa using ⟨hL _ _ hl, hs⟩) (fun hx hb _ hR k => lv_lload_n hx hb hd rfl (hR.2.2 _ _ hl) k) k
/-- arithmetic of two ints -/
theorem sx_bin {i : Instr} {x y z : Int} (hz : sw_ok32 z)
    (step : ∀ {p : Program} {l : Launch} {e : Env} {R : Room} {s : State} {m : MethodId} {args : Array Value} {below : List Frame} {meth : Method} {c : Code} {H : Heap} {locs : List Loc} {cells slots : Nat} {F : State → Prop} {A : Array Slot} {rest : List Value},
      p.tables.exec = Jvm.exec → c.code = M.2.1 → sw_ok32 x → sw_ok32 y → W p l e R s m args below meth c H locs cells slots F (F0 m (pc + 1) A (.int (Int32.ofInt z) :: rest)) → W p l e R s m args below meth c H locs cells slots F (F0 m pc A (.int (Int32.ofInt y) :: .int (Int32.ofInt x) :: rest)))
    (k : sw_E G N S d M (pc + 1) f (sw_i z :: st) h Q) : sw_E G N S d M pc f (sw_i y :: sw_i x :: st) h Q :=
  sx_go (fun hs _ v hv => by
    rcases List.mem_cons.mp hv with rfl | hv
    · exact hz
    · exact hs v (List.mem_cons_of_mem _ (List.mem_cons_of_mem _ hv))) (fun hx hb hs _ k => step hx hb (hs (sw_i x) (List.mem_cons_of_mem _ List.mem_cons_self)) (hs (sw_i y) List.mem_cons_self) k) k
theorem sx_iadd {x y : Int} (hd : decode M.2.1 pc = .ok (.iadd, 1)) (k : sw_E G N S d M (pc + 1) f (sw_i (sw_w (x + y)) :: st) h Q) : sw_E G N S d M pc f (sw_i y :: sw_i x :: st) h Q :=
  sx_bin (i := .iadd) (sw_w_ok _) (fun hx hb _ _ k => lv_iadd hx hb hd (by rw [sw_ofw, Int32.ofInt_add] at k; exact k)) k
theorem sx_isub {x y : Int} (hd : decode M.2.1 pc = .ok (.isub, 1)) (k : sw_E G N S d M (pc + 1) f (sw_i (sw_w (x - y)) :: st) h Q) : sw_E G N S d M pc f (sw_i y :: sw_i x :: st) h Q :=
  sx_bin (i := .iadd) (sw_w_ok _) (fun hx hb _ _ k => lv_isub hx hb hd (by rw [sw_ofw, Int32.ofInt_sub] at k; exact k)) k
theorem sx_imul {x y : Int} (hd : decode M.2.1 pc = .ok (.imul, 1)) (k : sw_E G N S d M (pc + 1) f (sw_i (sw_w (x * y)) :: st) h Q) : sw_E G N S d M pc f (sw_i y :: sw_i x :: st) h Q :=
  sx_bin (i := .iadd) (sw_w_ok _) (fun hx hb _ _ k => lv_imul hx hb hd (by rw [sw_ofw, Int32.ofInt_mul] at k; exact k)) k
theorem sw_oft (x : Int32) : Int32.ofInt x.toInt = x := by simp
theorem sx_iand {x y : Int} (hd : decode M.2.1 pc = .ok (.iand, 1)) (k : sw_E G N S d M (pc + 1) f (sw_i (Int32.ofInt x &&& Int32.ofInt y).toInt :: st) h Q) : sw_E G N S d M pc f (sw_i y :: sw_i x :: st) h Q :=
  sx_bin (i := .iadd) (sw_i32_ok _) (fun hx hb _ _ k => lv_iand hx hb hd (by rw [sw_oft] at k; exact k)) k
theorem sx_ior {x y : Int} (hd : decode M.2.1 pc = .ok (.ior, 1)) (k : sw_E G N S d M (pc + 1) f (sw_i (Int32.ofInt x ||| Int32.ofInt y).toInt :: st) h Q) : sw_E G N S d M pc f (sw_i y :: sw_i x :: st) h Q :=
  sx_bin (i := .iadd) (sw_i32_ok _) (fun hx hb _ _ k => lv_ior hx hb hd (by rw [sw_oft] at k; exact k)) k
theorem sx_ixor {x y : Int} (hd : decode M.2.1 pc = .ok (.ixor, 1)) (k : sw_E G N S d M (pc + 1) f (sw_i (Int32.ofInt x ^^^ Int32.ofInt y).toInt :: st) h Q) : sw_E G N S d M pc f (sw_i y :: sw_i x :: st) h Q :=
  sx_bin (i := .iadd) (sw_i32_ok _) (fun hx hb _ _ k => lv_ixor hx hb hd (by rw [sw_oft] at k; exact k)) k
theorem sx_ishl {x y : Int} (hd : decode M.2.1 pc = .ok (.ishl, 1)) (k : sw_E G N S d M (pc + 1) f (sw_i (Int32.ofInt x <<< (Int32.ofInt y &&& 31)).toInt :: st) h Q) : sw_E G N S d M pc f (sw_i y :: sw_i x :: st) h Q :=
  sx_bin (i := .iadd) (sw_i32_ok _) (fun hx hb _ _ k => lv_ishl hx hb hd (by rw [sw_oft] at k; exact k)) k
theorem sx_ishr {x y : Int} (hd : decode M.2.1 pc = .ok (.ishr, 1)) (k : sw_E G N S d M (pc + 1) f (sw_i (Int32.ofInt x >>> (Int32.ofInt y &&& 31)).toInt :: st) h Q) : sw_E G N S d M pc f (sw_i y :: sw_i x :: st) h Q :=
  sx_bin (i := .iadd) (sw_i32_ok _) (fun hx hb _ _ k => lv_ishr hx hb hd (by rw [sw_oft] at k; exact k)) k
theorem sx_idiv {x y : Int} (hd : decode M.2.1 pc = .ok (.idiv, 1)) (hy : y ≠ 0) (k : sw_E G N S d M (pc + 1) f (sw_i (sw_w (x.tdiv y)) :: st) h Q) : sw_E G N S d M pc f (sw_i y :: sw_i x :: st) h Q :=
  sx_bin (i := .iadd) (sw_w_ok _) (fun hx hb ox oy k => lv_idiv hx hb hd (fun e => hy ((sw_eq oy (by unfold sw_ok32; omega)).mp e)) (by
    have e : Int32.ofInt (sw_w (x.tdiv y)) = Int32.ofInt x / Int32.ofInt y := by
      rw [sw_ofw]
      apply Int32.toInt_inj.mp
      rw [Int32.toInt_div, Int32.toInt_ofInt, sw_ti ox, sw_ti oy]
    rw [e] at k
    exact k)) k
theorem sx_irem {x y : Int} (hd : decode M.2.1 pc = .ok (.irem, 1)) (hy : y ≠ 0) (k : sw_E G N S d M (pc + 1) f (sw_i (sw_w (x.tmod y)) :: st) h Q) : sw_E G N S d M pc f (sw_i y :: sw_i x :: st) h Q :=
  sx_bin (i := .iadd) (sw_w_ok _) (fun hx hb ox oy k => lv_irem hx hb hd (fun e => hy ((sw_eq oy (by unfold sw_ok32; omega)).mp e)) (by
    have e0 : Int32.ofInt (x.tdiv y) = Int32.ofInt x / Int32.ofInt y := by
      apply Int32.toInt_inj.mp
      rw [Int32.toInt_div, Int32.toInt_ofInt, sw_ti ox, sw_ti oy]
    have e : Int32.ofInt (sw_w (x.tmod y)) = Int32.ofInt x - Int32.ofInt x / Int32.ofInt y * Int32.ofInt y := by
      rw [sw_ofw, ← e0, ← Int32.ofInt_mul, ← Int32.ofInt_sub, Int.tmod_def, Int.mul_comm y]
    rw [e] at k
    exact k)) k
/-- arithmetic of one int -/
theorem sx_ineg {x : Int} (hd : decode M.2.1 pc = .ok (.ineg, 1)) (k : sw_E G N S d M (pc + 1) f (sw_i (sw_w (-x)) :: st) h Q) : sw_E G N S d M pc f (sw_i x :: st) h Q :=
  sx_go (fun hs _ v hv => by
    rcases List.mem_cons.mp hv with rfl | hv
    · exact sw_w_ok _
    · exact hs v (List.mem_cons_of_mem _ hv)) (fun hx hb hs _ k => lv_ineg hx hb hd (by simp only [List.map_cons, sw_v] at k; rw [sw_ofw, Int32.ofInt_neg] at k; exact k)) k
def sw_b8 (x : Int) : Int := (x + 128) % 256 - 128
def sw_c16 (x : Int) : Int := x % 65536
theorem sx_dup {x : Int} (hd : decode M.2.1 pc = .ok (.dup, 1)) (k : sw_E G N S d M (pc + 1) f (sw_i x :: sw_i x :: st) h Q) : sw_E G N S d M pc f (sw_i x :: st) h Q :=
  sx_go (fun hs _ => by simpa using hs) (fun hx hb hs _ k => lv_dup hx hb hd rfl k) k
theorem sx_dupr {x : Nat} (hd : decode M.2.1 pc = .ok (.dup, 1)) (k : sw_E G N S d M (pc + 1) f (sw_r x :: sw_r x :: st) h Q) : sw_E G N S d M pc f (sw_r x :: st) h Q :=
  sx_go (fun hs _ => by simpa using hs) (fun hx hb hs _ k => lv_dup hx hb hd rfl k) k
theorem sx_pop {x : Int} (hd : decode M.2.1 pc = .ok (.pop, 1)) (k : sw_E G N S d M (pc + 1) f st h Q) : sw_E G N S d M pc f (sw_i x :: st) h Q :=
  sx_go (fun hs _ v hv => hs v (List.mem_cons_of_mem _ hv)) (fun hx hb hs _ k => lv_pop hx hb hd rfl k) k
theorem sx_popr {x : Nat} (hd : decode M.2.1 pc = .ok (.pop, 1)) (k : sw_E G N S d M (pc + 1) f st h Q) : sw_E G N S d M pc f (sw_r x :: st) h Q :=
  sx_go (fun hs _ v hv => hs v (List.mem_cons_of_mem _ hv)) (fun hx hb hs _ k => lv_pop hx hb hd rfl k) k
theorem sx_dup2 {x : Int} {a : Nat} (hd : decode M.2.1 pc = .ok (.dup2, 1)) (k : sw_E G N S d M (pc + 1) f (sw_i x :: sw_r a :: sw_i x :: sw_r a :: st) h Q) : sw_E G N S d M pc f (sw_i x :: sw_r a :: st) h Q :=
  sx_go (fun hs _ v hv => by
    rcases List.mem_cons.mp hv with rfl | hv
    · exact hs _ List.mem_cons_self
    · rcases List.mem_cons.mp hv with rfl | hv
      · exact hs _ (List.mem_cons_of_mem _ List.mem_cons_self)
      · exact hs v hv) (fun hx hb hs _ k => lv_dup2_11 hx hb hd rfl rfl k) k
end RULES

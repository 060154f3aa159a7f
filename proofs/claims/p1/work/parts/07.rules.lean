-- ===== branches, stores, conversions, longs =====
section RULES
variable {G : sw_G} {N : Nat} {S : sw_S} {d : Nat} {M : sw_M} {pc : Nat} {f : sw_L} {st : List sw_V} {h : sw_H} {Q : Option sw_V → sw_H → Prop}
theorem sw_okt {st : List sw_V} {v : sw_V} (hs : ∀ w ∈ v :: st, sw_ok w) : ∀ w ∈ st, sw_ok w := fun w hw => hs w (List.mem_cons_of_mem _ hw)
theorem sw_okh {st : List sw_V} {v : sw_V} (hs : ∀ w ∈ v :: st, sw_ok w) : sw_ok v := hs v List.mem_cons_self
theorem sw_okc {st : List sw_V} {v : sw_V} (h1 : sw_ok v) (hs : ∀ w ∈ st, sw_ok w) : ∀ w ∈ v :: st, sw_ok w := fun w hw => by
  rcases List.mem_cons.mp hw with rfl | hw
  · exact h1
  · exact hs w hw
theorem sw_ok0 : sw_ok32 0 := ⟨by decide, by decide⟩
theorem sx_goto {off : Int} {tgt : Nat} (hd : decode M.2.1 pc = .ok (.goto off, 3)) (ht : (pc : Int) + off = (tgt : Int)) (k : sw_E G N S d M tgt f st h Q) : sw_E G N S d M pc f st h Q :=
  sx_go (fun hs _ => hs) (fun hx hb _ _ k => lv_goto hx hb hd ht k) k
-- branches
theorem sx_icmp_eq {x y : Int} {off : Int} {tgt : Nat} (hd : decode M.2.1 pc = .ok (.if_icmp .eq off, 3)) (ht : (pc : Int) + off = (tgt : Int)) (k1 : x = y → sw_E G N S d M tgt f st h Q) (k2 : x ≠ y → sw_E G N S d M (pc + 3) f st h Q) : sw_E G N S d M pc f (sw_i y :: sw_i x :: st) h Q := by
  intro p l e R s m args below meth c H locs cells slots F A X hW hH hS hL hR hF
  have ox : sw_ok32 x := (sw_okh (sw_okt hS))
  have oy : sw_ok32 y := sw_okh hS
  exact lv_icmp_eq X.1 X.2.1 hd ht (fun z => k1 ((sw_eq ox oy).mp z) p l e R s m args below meth c H locs cells slots F A X hW hH (sw_okt (sw_okt hS)) hL hR hF) (fun z => k2 (fun q => z ((sw_eq ox oy).mpr q)) p l e R s m args below meth c H locs cells slots F A X hW hH (sw_okt (sw_okt hS)) hL hR hF)
theorem sx_if_eq {x : Int} {off : Int} {tgt : Nat} (hd : decode M.2.1 pc = .ok (.ifCond .eq off, 3)) (ht : (pc : Int) + off = (tgt : Int)) (k1 : x = 0 → sw_E G N S d M tgt f st h Q) (k2 : x ≠ 0 → sw_E G N S d M (pc + 3) f st h Q) : sw_E G N S d M pc f (sw_i x :: st) h Q := by
  intro p l e R s m args below meth c H locs cells slots F A X hW hH hS hL hR hF
  have ox : sw_ok32 x := (sw_okh hS)
  exact lv_if_eq X.1 X.2.1 hd ht (fun z => k1 ((sw_eq ox sw_ok0).mp z) p l e R s m args below meth c H locs cells slots F A X hW hH (sw_okt hS) hL hR hF) (fun z => k2 (fun q => z ((sw_eq ox sw_ok0).mpr q)) p l e R s m args below meth c H locs cells slots F A X hW hH (sw_okt hS) hL hR hF)
theorem sx_icmp_ne {x y : Int} {off : Int} {tgt : Nat} (hd : decode M.2.1 pc = .ok (.if_icmp .ne off, 3)) (ht : (pc : Int) + off = (tgt : Int)) (k1 : x ≠ y → sw_E G N S d M tgt f st h Q) (k2 : x = y → sw_E G N S d M (pc + 3) f st h Q) : sw_E G N S d M pc f (sw_i y :: sw_i x :: st) h Q := by
  intro p l e R s m args below meth c H locs cells slots F A X hW hH hS hL hR hF
  have ox : sw_ok32 x := (sw_okh (sw_okt hS))
  have oy : sw_ok32 y := sw_okh hS
  exact lv_icmp_ne X.1 X.2.1 hd ht (fun z => k1 (fun q => z ((sw_eq ox oy).mpr q)) p l e R s m args below meth c H locs cells slots F A X hW hH (sw_okt (sw_okt hS)) hL hR hF) (fun z => k2 ((sw_eq ox oy).mp z) p l e R s m args below meth c H locs cells slots F A X hW hH (sw_okt (sw_okt hS)) hL hR hF)
theorem sx_if_ne {x : Int} {off : Int} {tgt : Nat} (hd : decode M.2.1 pc = .ok (.ifCond .ne off, 3)) (ht : (pc : Int) + off = (tgt : Int)) (k1 : x ≠ 0 → sw_E G N S d M tgt f st h Q) (k2 : x = 0 → sw_E G N S d M (pc + 3) f st h Q) : sw_E G N S d M pc f (sw_i x :: st) h Q := by
  intro p l e R s m args below meth c H locs cells slots F A X hW hH hS hL hR hF
  have ox : sw_ok32 x := (sw_okh hS)
  exact lv_if_ne X.1 X.2.1 hd ht (fun z => k1 (fun q => z ((sw_eq ox sw_ok0).mpr q)) p l e R s m args below meth c H locs cells slots F A X hW hH (sw_okt hS) hL hR hF) (fun z => k2 ((sw_eq ox sw_ok0).mp z) p l e R s m args below meth c H locs cells slots F A X hW hH (sw_okt hS) hL hR hF)
theorem sx_icmp_lt {x y : Int} {off : Int} {tgt : Nat} (hd : decode M.2.1 pc = .ok (.if_icmp .lt off, 3)) (ht : (pc : Int) + off = (tgt : Int)) (k1 : x < y → sw_E G N S d M tgt f st h Q) (k2 : y ≤ x → sw_E G N S d M (pc + 3) f st h Q) : sw_E G N S d M pc f (sw_i y :: sw_i x :: st) h Q := by
  intro p l e R s m args below meth c H locs cells slots F A X hW hH hS hL hR hF
  have ox : sw_ok32 x := (sw_okh (sw_okt hS))
  have oy : sw_ok32 y := sw_okh hS
  exact lv_icmp_lt X.1 X.2.1 hd ht (fun z => k1 ((sw_lt ox oy).mp z) p l e R s m args below meth c H locs cells slots F A X hW hH (sw_okt (sw_okt hS)) hL hR hF) (fun z => k2 (Int.not_lt.mp (fun q => z ((sw_lt ox oy).mpr q))) p l e R s m args below meth c H locs cells slots F A X hW hH (sw_okt (sw_okt hS)) hL hR hF)
theorem sx_if_lt {x : Int} {off : Int} {tgt : Nat} (hd : decode M.2.1 pc = .ok (.ifCond .lt off, 3)) (ht : (pc : Int) + off = (tgt : Int)) (k1 : x < 0 → sw_E G N S d M tgt f st h Q) (k2 : 0 ≤ x → sw_E G N S d M (pc + 3) f st h Q) : sw_E G N S d M pc f (sw_i x :: st) h Q := by
  intro p l e R s m args below meth c H locs cells slots F A X hW hH hS hL hR hF
  have ox : sw_ok32 x := (sw_okh hS)
  exact lv_if_lt X.1 X.2.1 hd ht (fun z => k1 ((sw_lt ox sw_ok0).mp z) p l e R s m args below meth c H locs cells slots F A X hW hH (sw_okt hS) hL hR hF) (fun z => k2 (Int.not_lt.mp (fun q => z ((sw_lt ox sw_ok0).mpr q))) p l e R s m args below meth c H locs cells slots F A X hW hH (sw_okt hS) hL hR hF)
theorem sx_icmp_ge {x y : Int} {off : Int} {tgt : Nat} (hd : decode M.2.1 pc = .ok (.if_icmp .ge off, 3)) (ht : (pc : Int) + off = (tgt : Int)) (k1 : y ≤ x → sw_E G N S d M tgt f st h Q) (k2 : x < y → sw_E G N S d M (pc + 3) f st h Q) : sw_E G N S d M pc f (sw_i y :: sw_i x :: st) h Q := by
  intro p l e R s m args below meth c H locs cells slots F A X hW hH hS hL hR hF
  have ox : sw_ok32 x := (sw_okh (sw_okt hS))
  have oy : sw_ok32 y := sw_okh hS
  exact lv_icmp_ge X.1 X.2.1 hd ht (fun z => k1 ((sw_le oy ox).mp z) p l e R s m args below meth c H locs cells slots F A X hW hH (sw_okt (sw_okt hS)) hL hR hF) (fun z => k2 (Int.not_le.mp (fun q => z ((sw_le oy ox).mpr q))) p l e R s m args below meth c H locs cells slots F A X hW hH (sw_okt (sw_okt hS)) hL hR hF)
theorem sx_if_ge {x : Int} {off : Int} {tgt : Nat} (hd : decode M.2.1 pc = .ok (.ifCond .ge off, 3)) (ht : (pc : Int) + off = (tgt : Int)) (k1 : 0 ≤ x → sw_E G N S d M tgt f st h Q) (k2 : x < 0 → sw_E G N S d M (pc + 3) f st h Q) : sw_E G N S d M pc f (sw_i x :: st) h Q := by
  intro p l e R s m args below meth c H locs cells slots F A X hW hH hS hL hR hF
  have ox : sw_ok32 x := (sw_okh hS)
  exact lv_if_ge X.1 X.2.1 hd ht (fun z => k1 ((sw_le sw_ok0 ox).mp z) p l e R s m args below meth c H locs cells slots F A X hW hH (sw_okt hS) hL hR hF) (fun z => k2 (Int.not_le.mp (fun q => z ((sw_le sw_ok0 ox).mpr q))) p l e R s m args below meth c H locs cells slots F A X hW hH (sw_okt hS) hL hR hF)
theorem sx_icmp_gt {x y : Int} {off : Int} {tgt : Nat} (hd : decode M.2.1 pc = .ok (.if_icmp .gt off, 3)) (ht : (pc : Int) + off = (tgt : Int)) (k1 : y < x → sw_E G N S d M tgt f st h Q) (k2 : x ≤ y → sw_E G N S d M (pc + 3) f st h Q) : sw_E G N S d M pc f (sw_i y :: sw_i x :: st) h Q := by
  intro p l e R s m args below meth c H locs cells slots F A X hW hH hS hL hR hF
  have ox : sw_ok32 x := (sw_okh (sw_okt hS))
  have oy : sw_ok32 y := sw_okh hS
  exact lv_icmp_gt X.1 X.2.1 hd ht (fun z => k1 ((sw_lt oy ox).mp z) p l e R s m args below meth c H locs cells slots F A X hW hH (sw_okt (sw_okt hS)) hL hR hF) (fun z => k2 (Int.not_lt.mp (fun q => z ((sw_lt oy ox).mpr q))) p l e R s m args below meth c H locs cells slots F A X hW hH (sw_okt (sw_okt hS)) hL hR hF)
theorem sx_if_gt {x : Int} {off : Int} {tgt : Nat} (hd : decode M.2.1 pc = .ok (.ifCond .gt off, 3)) (ht : (pc : Int) + off = (tgt : Int)) (k1 : 0 < x → sw_E G N S d M tgt f st h Q) (k2 : x ≤ 0 → sw_E G N S d M (pc + 3) f st h Q) : sw_E G N S d M pc f (sw_i x :: st) h Q := by
  intro p l e R s m args below meth c H locs cells slots F A X hW hH hS hL hR hF
  have ox : sw_ok32 x := (sw_okh hS)
  exact lv_if_gt X.1 X.2.1 hd ht (fun z => k1 ((sw_lt sw_ok0 ox).mp z) p l e R s m args below meth c H locs cells slots F A X hW hH (sw_okt hS) hL hR hF) (fun z => k2 (Int.not_lt.mp (fun q => z ((sw_lt sw_ok0 ox).mpr q))) p l e R s m args below meth c H locs cells slots F A X hW hH (sw_okt hS) hL hR hF)
theorem sx_icmp_le {x y : Int} {off : Int} {tgt : Nat} (hd : decode M.2.1 pc = .ok (.if_icmp .le off, 3)) (ht : (pc : Int) + off = (tgt : Int)) (k1 : x ≤ y → sw_E G N S d M tgt f st h Q) (k2 : y < x → sw_E G N S d M (pc + 3) f st h Q) : sw_E G N S d M pc f (sw_i y :: sw_i x :: st) h Q := by
  intro p l e R s m args below meth c H locs cells slots F A X hW hH hS hL hR hF
  have ox : sw_ok32 x := (sw_okh (sw_okt hS))
  have oy : sw_ok32 y := sw_okh hS
  exact lv_icmp_le X.1 X.2.1 hd ht (fun z => k1 ((sw_le ox oy).mp z) p l e R s m args below meth c H locs cells slots F A X hW hH (sw_okt (sw_okt hS)) hL hR hF) (fun z => k2 (Int.not_le.mp (fun q => z ((sw_le ox oy).mpr q))) p l e R s m args below meth c H locs cells slots F A X hW hH (sw_okt (sw_okt hS)) hL hR hF)
theorem sx_if_le {x : Int} {off : Int} {tgt : Nat} (hd : decode M.2.1 pc = .ok (.ifCond .le off, 3)) (ht : (pc : Int) + off = (tgt : Int)) (k1 : x ≤ 0 → sw_E G N S d M tgt f st h Q) (k2 : 0 < x → sw_E G N S d M (pc + 3) f st h Q) : sw_E G N S d M pc f (sw_i x :: st) h Q := by
  intro p l e R s m args below meth c H locs cells slots F A X hW hH hS hL hR hF
  have ox : sw_ok32 x := (sw_okh hS)
  exact lv_if_le X.1 X.2.1 hd ht (fun z => k1 ((sw_le ox sw_ok0).mp z) p l e R s m args below meth c H locs cells slots F A X hW hH (sw_okt hS) hL hR hF) (fun z => k2 (Int.not_le.mp (fun q => z ((sw_le ox sw_ok0).mpr q))) p l e R s m args below meth c H locs cells slots F A X hW hH (sw_okt hS) hL hR hF)
/-- a store into a local -/
theorem sx_sto {v : sw_V} {i pc2 : Nat} (hi : i < M.2.2.1)
    (step : ∀ {p : Program} {l : Launch} {e : Env} {R : Room} {s : State} {m : MethodId} {args : Array Value} {below : List Frame} {meth : Method} {c : Code} {H : Heap} {locs : List Loc} {cells slots : Nat} {F : State → Prop} {A : Array Slot} {rest : List Value} {lv : List (Nat × Value)},
      p.tables.exec = Jvm.exec → c.code = M.2.1 → lv_has A M.2.2.1 lv → (∀ A' : Array Slot, lv_has A' M.2.2.1 ((i, sw_v G v) :: lv.filter (fun q => !(q.1 == i) && !(q.1 + 1 == i && q.2.category == 2))) → W p l e R s m args below meth c H locs cells slots F (F0 m pc2 A' rest)) → W p l e R s m args below meth c H locs cells slots F (F0 m pc A (sw_v G v :: rest)))
    (k : sw_E G N S d M pc2 (sw_s f i v) st h Q) : sw_E G N S d M pc f (v :: st) h Q := by
  intro p l e R s m args below meth c H locs cells slots F A X hW hH hS hL hR hF
  refine step X.1 X.2.1 hR.has (fun A' hA' => k p l e R s m args below meth c H locs cells slots F A' X hW hH (sw_okt hS) (fun j w hw => ?_) (sw_R.store hA') hF)
  rcases sw_s_of f i v j w hw with ⟨-, rfl⟩ | ⟨-, h2, -⟩
  · exact sw_okh hS
  · exact hL j w h2
theorem sx_istore_n {x : Int} {i : Fin 4} (hd : decode M.2.1 pc = .ok (.istore_n i, 1)) (hi : (i : Nat) < M.2.2.1) (k : sw_E G N S d M (pc + 1) (sw_s f i (sw_i x)) st h Q) : sw_E G N S d M pc f (sw_i x :: st) h Q :=
  sx_sto hi (fun hx hb hl kk => lv_istore_n hx hb hd rfl hl hi rfl kk) k
theorem sx_istore {x : Int} {i : Nat} (hd : decode M.2.1 pc = .ok (.istore i, 2)) (hi : i < M.2.2.1) (k : sw_E G N S d M (pc + 2) (sw_s f i (sw_i x)) st h Q) : sw_E G N S d M pc f (sw_i x :: st) h Q :=
  sx_sto hi (fun hx hb hl kk => lv_istore hx hb hd hl hi rfl kk) k
theorem sx_astore_n {x : Nat} {i : Fin 4} (hd : decode M.2.1 pc = .ok (.astore_n i, 1)) (hi : (i : Nat) < M.2.2.1) (k : sw_E G N S d M (pc + 1) (sw_s f i (sw_r x)) st h Q) : sw_E G N S d M pc f (sw_r x :: st) h Q :=
  sx_sto hi (fun hx hb hl kk => lv_astore_n hx hb hd rfl hl hi rfl kk) k
theorem sx_lstore_n {x : Int} {i : Fin 4} (hd : decode M.2.1 pc = .ok (.lstore_n i, 1)) (hi : (i : Nat) + 1 < M.2.2.1) (k : sw_E G N S d M (pc + 1) (sw_s2 f i (sw_l x)) st h Q) : sw_E G N S d M pc f (sw_l x :: st) h Q := by
  intro p l e R s m args below meth c H locs cells slots F A X hW hH hS hL hR hF
  refine lv_lstore_n X.1 X.2.1 hd rfl hR.has hi rfl (fun A' hA' => k p l e R s m args below meth c H locs cells slots F A' X hW hH (sw_okt hS) (fun j w hw => ?_) (sw_R.store2 hA') hF)
  rcases sw_s2_of f i (sw_l x) j w hw with ⟨-, rfl⟩ | ⟨-, -, h2, -⟩
  · exact sw_okh hS
  · exact hL j w h2
theorem sx_iinc {x n : Int} {i : Nat} (hd : decode M.2.1 pc = .ok (.iinc i n, 3)) (hi : i < M.2.2.1) (hl : sw_g f i = some (sw_i x)) (k : sw_E G N S d M (pc + 3) (sw_s f i (sw_i (sw_w (x + n)))) st h Q) : sw_E G N S d M pc f st h Q := by
  intro p l e R s m args below meth c H locs cells slots F A X hW hH hS hL hR hF
  have hm : (i, sw_v G (sw_i x)) ∈ sw_as G f := sw_as_mem.mpr ⟨_, hl, rfl⟩
  obtain ⟨kq, hk⟩ := List.getElem?_of_mem hm
  refine lv_iinc (v := Int32.ofInt (sw_w (x + n))) X.1 X.2.1 hd hR.has hk (by rw [sw_ofw, Int32.ofInt_add]) hi rfl (fun A' hA' => k p l e R s m args below meth c H locs cells slots F A' X hW hH hS (fun j w hw => ?_) (sw_R.store (v := sw_i (sw_w (x + n))) hA') hF)
  rcases sw_s_of f i _ j w hw with ⟨-, rfl⟩ | ⟨-, h2, -⟩
  · exact sw_w_ok _
  · exact hL j w h2
theorem sw_b8_of (x : Int) : (Int32.ofInt x).toInt8.toInt32 = Int32.ofInt (sw_b8 x) := by
  apply Int32.toInt_inj.mp
  rw [Int8.toInt_toInt32, Int32.toInt_toInt8, sw_ti (z := sw_b8 x) (by unfold sw_ok32 sw_b8; omega), Int32.toInt_ofInt]
  unfold sw_b8
  simp only [Int.bmod_def, show ((Int32.size : Nat) : Int) = 4294967296 from rfl, show ((2 ^ 8 : Nat) : Int) = 256 from rfl, show ((Int8.size : Nat) : Int) = 256 from rfl]
  split <;> split <;> omega
theorem sx_i2b {x : Int} (hd : decode M.2.1 pc = .ok (.i2b, 1)) (k : sw_E G N S d M (pc + 1) f (sw_i (sw_b8 x) :: st) h Q) : sw_E G N S d M pc f (sw_i x :: st) h Q :=
  sx_go (fun hs _ => sw_okc (by show sw_ok32 _; unfold sw_ok32 sw_b8; omega) (sw_okt hs)) (fun hx hb _ _ k => lv_i2b hx hb hd (sw_b8_of x) k) k
theorem sx_i2l {x : Int} (hd : decode M.2.1 pc = .ok (.i2l, 1)) (k : sw_E G N S d M (pc + 1) f (sw_l x :: st) h Q) : sw_E G N S d M pc f (sw_i x :: st) h Q :=
  sx_go (fun hs _ => sw_okc (by have := sw_okh hs; unfold sw_ok sw_ok32 at this; show sw_ok64 _; unfold sw_ok64; omega) (sw_okt hs)) (fun hx hb hs _ k => lv_i2l hx hb hd (by
    have o := sw_okh hs
    apply Int64.toInt_inj.mp
    rw [Int32.toInt_toInt64, sw_ti o, sw_tl (by unfold sw_ok sw_ok32 at o; unfold sw_ok64; omega)]) k) k
theorem sx_lconst {n : Fin 2} {z : Int} (hd : decode M.2.1 pc = .ok (.lconst n, 1)) (hv : ((n : Nat) : Int) = z) (k : sw_E G N S d M (pc + 1) f (sw_l z :: st) h Q) : sw_E G N S d M pc f st h Q :=
  sx_go (fun hs _ => sw_okc (by have := n.isLt; show sw_ok64 _; unfold sw_ok64; omega) hs) (fun hx hb _ _ k => lv_lconst hx hb hd (by rw [← hv]; match n with | 0 => rfl | 1 => rfl) k) k
theorem sx_ladd {x y : Int} (hd : decode M.2.1 pc = .ok (.ladd, 1)) (k : sw_E G N S d M (pc + 1) f (sw_l (sw_w64 (x + y)) :: st) h Q) : sw_E G N S d M pc f (sw_l y :: sw_l x :: st) h Q :=
  sx_go (fun hs _ => sw_okc (v := sw_l _) (sw_w64_ok _) (sw_okt (sw_okt hs))) (fun hx hb _ _ k => lv_ladd hx hb hd (by simp only [List.map_cons, sw_v] at k; rw [sw_ofw64, Int64.ofInt_add] at k; exact k)) k
theorem sx_lmul {x y : Int} (hd : decode M.2.1 pc = .ok (.lmul, 1)) (k : sw_E G N S d M (pc + 1) f (sw_l (sw_w64 (x * y)) :: st) h Q) : sw_E G N S d M pc f (sw_l y :: sw_l x :: st) h Q :=
  sx_go (fun hs _ => sw_okc (v := sw_l _) (sw_w64_ok _) (sw_okt (sw_okt hs))) (fun hx hb _ _ k => lv_lmul hx hb hd (by simp only [List.map_cons, sw_v] at k; rw [sw_ofw64, Int64.ofInt_mul] at k; exact k)) k
theorem sw_oft64 (x : Int64) : Int64.ofInt x.toInt = x := by simp
theorem sx_lor {x y : Int} (hd : decode M.2.1 pc = .ok (.lor, 1)) (k : sw_E G N S d M (pc + 1) f (sw_l (Int64.ofInt x ||| Int64.ofInt y).toInt :: st) h Q) : sw_E G N S d M pc f (sw_l y :: sw_l x :: st) h Q :=
  sx_go (fun hs _ => sw_okc (v := sw_l _) (sw_i64_ok _) (sw_okt (sw_okt hs))) (fun hx hb _ _ k => lv_lor hx hb hd (by simp only [List.map_cons, sw_v] at k; rw [sw_oft64] at k; exact k)) k
theorem sx_lshl {x y : Int} (hd : decode M.2.1 pc = .ok (.lshl, 1)) (k : sw_E G N S d M (pc + 1) f (sw_l (Int64.ofInt x <<< ((Int32.ofInt y).toInt64 &&& 63)).toInt :: st) h Q) : sw_E G N S d M pc f (sw_i y :: sw_l x :: st) h Q :=
  sx_go (fun hs _ => sw_okc (v := sw_l _) (sw_i64_ok _) (sw_okt (sw_okt hs))) (fun hx hb _ _ k => lv_lshl hx hb hd rfl (by simp only [List.map_cons, sw_v] at k; rw [sw_oft64] at k; exact k)) k
def sw_cmp (x y : Int) : Int := if y < x then 1 else if x = y then 0 else -1
theorem sx_lcmp {x y : Int} (hd : decode M.2.1 pc = .ok (.lcmp, 1)) (k : sw_E G N S d M (pc + 1) f (sw_i (sw_cmp x y) :: st) h Q) : sw_E G N S d M pc f (sw_l y :: sw_l x :: st) h Q :=
  sx_go (fun hs _ => sw_okc (by show sw_ok32 _; unfold sw_ok32 sw_cmp; split <;> (try split) <;> omega) (sw_okt (sw_okt hs))) (fun hx hb hs _ k => W.lcmp hx hb hd (by
    have ox : sw_ok64 x := sw_okh (sw_okt hs)
    have oy : sw_ok64 y := sw_okh hs
    have e : Int32.ofInt (sw_cmp x y) = lg_cmp (Int64.ofInt x) (Int64.ofInt y) := by
      unfold lg_cmp sw_cmp
      simp only [gt_iff_lt, Int64.lt_iff_toInt_lt, ← Int64.toInt_inj, sw_tl ox, sw_tl oy]
      split
      · rfl
      · split <;> rfl
    simp only [List.map_cons, sw_v] at k
    rw [e] at k
    exact k)) k
end RULES

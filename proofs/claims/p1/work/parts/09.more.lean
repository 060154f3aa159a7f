-- ===== statics, constants, switches, returns =====
section RULES
variable {G : sw_G} {N : Nat} {S : sw_S} {d : Nat} {M : sw_M} {pc : Nat} {f : sw_L} {st : List sw_V} {h : sw_H} {Q : Option sw_V → sw_H → Prop}
theorem sw_nest {p : Program} {R : Room} {s : State} {m : MethodId} {meth : Method} {c : Code} {cells slots : Nat} (X : sw_X G N d p R s m meth c M cells slots) {a : String} {i : Nat} {b n ds ho : String} (hm : Cond.fieldLinkNest a i b n ds ho ∈ lw_tbl) (args : Array Value) : (Cond.fieldLinkNest a i b n ds ho).before args s = true := by
  obtain ⟨-, -, -, -, -, hW, ⟨⟨A0, hA⟩, -⟩, -⟩ := X
  exact va_Nw.use rfl (va_Nw.warmF hW (va_Nw.of rfl (hA _ hm)))
theorem sw_nestM {p : Program} {R : Room} {s : State} {m : MethodId} {meth : Method} {c : Code} {cells slots : Nat} (X : sw_X G N d p R s m meth c M cells slots) {a : String} {i : Nat} {y : MethodName} {ho : String} (hm : Cond.methodLinkNest a i y ho ∈ lw_tbl) : va_Nw (.methodLinkNest a i y ho) s := by
  obtain ⟨-, -, -, -, -, hW, ⟨⟨A0, hA⟩, -⟩, -⟩ := X
  exact va_Nw.warmM hW (va_Nw.of rfl (hA _ hm))
theorem sx_gets {idx t : Nat} (ht : t < 3) (hl : Cond.fieldLinkNest M.1.cls idx "StackWords" (sw_sn t) "[I" "StackWords" ∈ lw_tbl) (hd : decode M.2.1 pc = .ok (.getstatic idx, 3)) (kk : sw_E G N S d M (pc + 3) f (sw_r (100000 + t) :: st) h Q) : sw_E G N S d M pc f st h Q := by
  intro p l' e R s m args below meth c H locs cells slots F A X hW hH hs hL hR hF'
  have hn := sw_nest X hl args
  obtain ⟨x1, x2, x3, x4, x5, x6, ⟨g1, g2, g3, g4⟩, x8, x9, x10, x11⟩ := id X
  obtain ⟨z1, z2, z3⟩ := g3 t ht
  have hz : va_Z "StackWords" (sw_sn t) "[I" (.ref (G.2.2.2 (100000 + t))) (sw_B G) s s.heap := (z1.moved x6.alike).kept (fun a ha _ => x9 a ha)
  refine va_getsN x1 x2 (ref := "StackWords") hz hW.2 x4 hn (fun _ q => q) hd ?_
  have e1 : Value.ref (G.2.2.2 (100000 + t)) = sw_v G (sw_r (100000 + t)) := by
    simp only [sw_v, sw_ad]
    rw [if_neg (by omega)]
  rw [e1]
  exact kk p l' e R s m args below meth c H locs cells slots F A X hW hH (sw_okc (v := sw_r _) trivial hs) hL hR hF'
theorem sw_sd_ok (t i : Nat) : sw_ok32 (sw_sd t i) := by
  have key : ∀ (l : List Int), (∀ z ∈ l, sw_ok32 z) → sw_ok32 (l.getD i 0) := by
    intro l hl
    rw [List.getD_eq_getElem?_getD]
    cases hg : l[i]? with
    | none => exact sw_ok0
    | some z => exact hl z (List.mem_of_getElem? hg)
  refine key _ ?_
  unfold sw_sdl
  intro z hz
  unfold sw_ok32
  split at hz
  · simp at hz; omega
  · split at hz <;> (simp at hz; omega)
theorem sx_siaload {t : Nat} {i : Int} (ht : t < 3) (hd : decode M.2.1 pc = .ok (.iaload, 1)) (hi : 0 ≤ i ∧ i < (sw_sdl t).length) (kk : sw_E G N S d M (pc + 1) f (sw_i (sw_sd t i.toNat) :: st) h Q) : sw_E G N S d M pc f (sw_i i :: sw_r (100000 + t) :: st) h Q := by
  intro p l' e R s m args below meth c H locs cells slots F A X hW hH hs hL hR hF'
  obtain ⟨x1, x2, x3, x4, x5, x6, ⟨g1, g2, g3, g4⟩, x8, x9, x10, x11⟩ := id X
  obtain ⟨z1, z2, z3⟩ := g3 t ht
  have hlen : (sw_sdl t).length ≤ 65536 := by unfold sw_sdl; split <;> (try split) <;> simp
  obtain ⟨hv, he⟩ := sw_in hi.1 hi.2 hlen
  have hz : va_X (G.2.2.2 (100000 + t)) (sw_sdl t).length (fun i => Int32.ofInt (sw_sd t i)) s s.heap := (z2.moved x6.alike).kept (x9 _ z3)
  have hlt : G.2.2.2 (100000 + t) < s.heap.size := by
    obtain ⟨scr, hq, -⟩ := hz
    exact (Array.getElem?_eq_some_iff.mp hq).1
  have e1 : sw_v G (sw_r (100000 + t)) = Value.ref (G.2.2.2 (100000 + t)) := by
    simp only [sw_v, sw_ad]
    rw [if_neg (by omega)]
  have k1 := kk p l' e R s m args below meth c H locs cells slots F A X hW hH (sw_okc (v := sw_i _) (sw_sd_ok _ _) (sw_okt (sw_okt hs))) hL hR hF'
  simp only [List.map_cons, e1]
  refine va_sld x1 x2 hz hlt (fun q : G.1.heap.size ≤ _ => by omega) hW.2 hv hd ?_
  rw [he]
  exact k1
theorem sx_ldc {idx : Nat} {n : Int} (hl : Cond.constant M.1.cls idx (Int32.ofInt n) ∈ gtb) (hn : sw_ok32 n) (hd : decode M.2.1 pc = .ok (.ldc idx, 2)) (k : sw_E G N S d M (pc + 2) f (sw_i n :: st) h Q) : sw_E G N S d M pc f st h Q := by
  intro p l' e R s m args below meth c H locs cells slots F A X hW hH hs hL hR hF'
  exact lv_ldc X.1 X.2.1 X.2.2.2.1 (sw_hts X args _ hl) hd (k p l' e R s m args below meth c H locs cells slots F A X hW hH (sw_okc (v := sw_i n) hn hs) hL hR hF')
theorem sx_ldc2 {idx : Nat} {n : Int} (hl : Cond.constantLong M.1.cls idx (Int64.ofInt n) ∈ gtb) (hn : sw_ok64 n) (hd : decode M.2.1 pc = .ok (.ldc2_w idx, 3)) (k : sw_E G N S d M (pc + 3) f (sw_l n :: st) h Q) : sw_E G N S d M pc f st h Q := by
  intro p l' e R s m args below meth c H locs cells slots F A X hW hH hs hL hR hF'
  exact lv_ldc2 X.1 X.2.1 X.2.2.2.1 (sw_hts X args _ hl) hd (k p l' e R s m args below meth c H locs cells slots F A X hW hH (sw_okc (v := sw_l n) hn hs) hL hR hF')
def sw_ts (E : Nat → Prop) (x : Int) : Int → List Nat → Prop
  | _, [] => True
  | lo, t :: r => (x = lo → E t) ∧ sw_ts E x (lo + 1) r
theorem sw_ts_at {E : Nat → Prop} {x : Int} : ∀ (ts : List Nat) (lo : Int) (j : Nat) (t : Nat), sw_ts E x lo ts → ts[j]? = some t → x = lo + j → E t
  | [], _, _, _, _, ht, _ => by simp at ht
  | t0 :: r, lo, 0, t, hs, ht, hx => by
    simp only [List.getElem?_cons_zero, Option.some.injEq] at ht
    subst ht
    exact hs.1 (by simpa using hx)
  | t0 :: r, lo, j + 1, t, hs, ht, hx => sw_ts_at r (lo + 1) j t hs.2 (by simpa using ht) (by push_cast at hx; omega)
theorem sx_tsw {x dflt lo hi : Int} {offs : Array Int} {len dt : Nat} {ts : List Nat} (hd : decode M.2.1 pc = .ok (.tableswitch dflt lo hi offs, len)) (hdt : (pc : Int) + dflt = (dt : Int)) (hts : offs.toList = ts.map (fun (t : Nat) => (t : Int) - (pc : Int))) (hhi : hi = lo + ts.length - 1)
    (kd : x < lo ∨ hi < x → sw_E G N S d M dt f st h Q) (ks : sw_ts (fun t => sw_E G N S d M t f st h Q) x lo ts) : sw_E G N S d M pc f (sw_i x :: st) h Q := by
  intro p l' e R s m args below meth c H locs cells slots F A X hW hH hs hL hR hF'
  have ox : sw_ok32 x := sw_okh hs
  by_cases hx : x < lo ∨ hi < x
  · exact lv_tableOut X.1 X.2.1 hd (by rw [sw_ti ox]; exact hx) hdt (kd hx p l' e R s m args below meth c H locs cells slots F A X hW hH (sw_okt hs) hL hR hF')
  · have h1 : ¬ x < lo := fun q => hx (Or.inl q)
    have h2 : ¬ hi < x := fun q => hx (Or.inr q)
    have hj : (x - lo).toNat < ts.length := by omega
    have hg : ts[(x - lo).toNat]? = some ts[(x - lo).toNat] := List.getElem?_eq_getElem hj
    have ho : offs[(x - lo).toNat]? = some ((ts[(x - lo).toNat] : Int) - (pc : Int)) := by
      rw [← Array.getElem?_toList, hts, List.getElem?_map, hg]
      rfl
    refine lv_tableIn X.1 X.2.1 hd (by rw [sw_ti ox]; exact h1) (by rw [sw_ti ox]; exact h2) (by rw [sw_ti ox]; exact ho) (tgt := ts[(x - lo).toNat]) (by omega) ?_
    exact sw_ts_at ts lo _ _ ks hg (by omega) p l' e R s m args below meth c H locs cells slots F A X hW hH (sw_okt hs) hL hR hF'
def sw_lk (E : Nat → Prop) (x : Int) (dt : Nat) : List (Int × Nat) → Prop
  | [] => E dt
  | (k, t) :: r => (x = k → E t) ∧ (x ≠ k → sw_lk E x dt r)
theorem sw_lk_at {E : Nat → Prop} {x : Int} {dt : Nat} {pc0 dflt : Int} (hdt : pc0 + dflt = (dt : Int)) : ∀ (ps : List (Int × Nat)), sw_lk E x dt ps → ∃ t : Nat, pc0 + Op.lookupswitch.offset (ps.map (fun (q : Int × Nat) => (q.1, (q.2 : Int) - pc0))) dflt x = (t : Int) ∧ E t
  | [], hs => ⟨dt, hdt, hs⟩
  | (k, t) :: r, hs => by
    by_cases hx : x = k
    · refine ⟨t, ?_, hs.1 hx⟩
      simp only [List.map_cons, Op.lookupswitch.offset, hx, if_true]
      first | omega | (simp; omega)
    · obtain ⟨t', h1, h2⟩ := sw_lk_at hdt r (hs.2 hx)
      refine ⟨t', ?_, h2⟩
      rw [← h1]
      simp only [List.map_cons, Op.lookupswitch.offset]
      first | rw [if_neg hx] | (rw [if_neg (fun q => hx q.symm)]) | simp [hx]
theorem sx_lsw {x dflt : Int} {pa : Array (Int × Int)} {len dt : Nat} {ps : List (Int × Nat)} (hd : decode M.2.1 pc = .ok (.lookupswitch dflt pa, len)) (hdt : (pc : Int) + dflt = (dt : Int)) (hps : pa.toList = ps.map (fun (q : Int × Nat) => (q.1, (q.2 : Int) - (pc : Int)))) (hso : (pa.toList.zip (pa.toList.drop 1)).all (fun (a, next) => a.1 < next.1) = true)
    (ks : sw_lk (fun t => sw_E G N S d M t f st h Q) x dt ps) : sw_E G N S d M pc f (sw_i x :: st) h Q := by
  intro p l' e R s m args below meth c H locs cells slots F A X hW hH hs hL hR hF'
  have ox : sw_ok32 x := sw_okh hs
  obtain ⟨t, h1, h2⟩ := sw_lk_at hdt ps ks
  exact lv_lookup X.1 X.2.1 hd hso rfl (tgt := t) (by rw [sw_ti ox, hps]; exact h1) (h2 p l' e R s m args below meth c H locs cells slots F A X hW hH (sw_okt hs) hL hR hF')
theorem sx_ret (hd : decode M.2.1 pc = .ok (.return_, 1)) (hq : Q none h) : sw_E G N S d M pc f [] h Q := by
  intro p l' e R s m args below meth c H locs cells slots F A X hW hH hs hL hR hF'
  exact hF' pc A H locs none h hd hq (fun v hv => by simp at hv) hH hW
theorem sx_ireturn {z : Int} (hd : decode M.2.1 pc = .ok (.ireturn, 1)) (hq : Q (some (sw_i z)) h) : sw_E G N S d M pc f [sw_i z] h Q := by
  intro p l' e R s m args below meth c H locs cells slots F A X hW hH hs hL hR hF'
  exact hF' pc A H locs (some (sw_i z)) h hd hq (fun v hv => hs v (by simpa using hv)) hH hW
theorem sx_areturn {a : Nat} (hd : decode M.2.1 pc = .ok (.areturn, 1)) (hq : Q (some (sw_r a)) h) : sw_E G N S d M pc f [sw_r a] h Q := by
  intro p l' e R s m args below meth c H locs cells slots F A X hW hH hs hL hR hF'
  exact hF' pc A H locs (some (sw_r a)) h hd hq (fun v hv => hs v (by simpa using hv)) hH hW
/-- what was known of the heap's numbers -/
theorem sx_know (k : sw_okH S h → sw_E G N S d M pc f st h Q) : sw_E G N S d M pc f st h Q := by
  intro p l' e R s m args below meth c H locs cells slots F A X hW hH
  exact k hH p l' e R s m args below meth c H locs cells slots F A X hW hH
theorem sx_eq {f2 : sw_L} {st2 : List sw_V} {h2 : sw_H} (e1 : f2 = f) (e2 : st2 = st) (e3 : h2 = h) (k : sw_E G N S d M pc f2 st2 h2 Q) : sw_E G N S d M pc f st h Q := by subst e1; subst e2; subst e3; exact k
/-- a loop, by a number that falls -/
theorem sx_loop {Y : Type} (I : Y → Prop) (mu : Y → Nat) (E : Y → Prop) (step : ∀ x, I x → (∀ y, I y → mu y < mu x → E y) → E x) (x : Y) (hx : I x) : E x := by
  have key : ∀ (n : Nat) (x : Y), mu x < n → I x → E x := by
    intro n
    induction n with
    | zero => intro x h; omega
    | succ n ih =>
      intro x hn hx
      exact step x hx (fun y hy hlt => ih y (by omega) hy)
  exact key (mu x + 1) x (Nat.lt_succ_self _) hx
end RULES

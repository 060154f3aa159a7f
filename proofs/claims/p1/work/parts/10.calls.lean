-- ===== a method's contract out of its walk; calls =====
/-- the locals at a method's entry -/
def sw_en : List sw_V → sw_L
  | [] => []
  | .inr (.inl z) :: t => some (sw_l z) :: none :: sw_en t
  | v :: t => some v :: sw_en t
def sw_pad : sw_L → Nat → sw_L
  | l, 0 => l
  | [], n + 1 => none :: sw_pad [] n
  | x :: l, n + 1 => x :: sw_pad l n
theorem sw_pad_g : ∀ (l : sw_L) (n j : Nat), sw_g (sw_pad l n) j = sw_g l j
  | _, 0, _ => by simp [sw_pad]
  | [], n + 1, 0 => rfl
  | [], n + 1, j + 1 => by
    show sw_g (sw_pad [] n) j = none
    rw [sw_pad_g [] n j]
    rfl
  | x :: l, n + 1, 0 => rfl
  | x :: l, n + 1, j + 1 => sw_pad_g l n j
theorem sw_en_ok : ∀ (vs : List sw_V) (j : Nat) (v : sw_V), (∀ w ∈ vs, sw_ok w) → sw_g (sw_en vs) j = some v → sw_ok v
  | [], _, _, _, h => by simp [sw_en, sw_g] at h
  | .inl z :: t, 0, v, hs, h => by cases h; exact hs _ List.mem_cons_self
  | .inl z :: t, j + 1, v, hs, h => sw_en_ok t j v (sw_okt hs) h
  | .inr (.inr z) :: t, 0, v, hs, h => by cases h; exact trivial
  | .inr (.inr z) :: t, j + 1, v, hs, h => sw_en_ok t j v (sw_okt hs) h
  | .inr (.inl z) :: t, 0, v, hs, h => by cases h; exact hs _ List.mem_cons_self
  | .inr (.inl z) :: t, 1, v, hs, h => by simp [sw_en, sw_g] at h
  | .inr (.inl z) :: t, j + 2, v, hs, h => sw_en_ok t j v (sw_okt hs) h
theorem sw_en_at (G : sw_G) : ∀ (vs : List sw_V) (i j : Nat) (v : sw_V), sw_g (sw_en vs) j = some v → (i + j, sw_v G v) ∈ lv_args i (vs.map (sw_v G))
  | [], _, _, _, h => by simp [sw_en, sw_g] at h
  | .inl z :: t, i, 0, v, h => by cases h; exact List.mem_cons_self
  | .inl z :: t, i, j + 1, v, h => by
    have := sw_en_at G t (i + 1) j v h
    rw [show i + (j + 1) = i + 1 + j by omega]
    exact List.mem_cons_of_mem _ this
  | .inr (.inr z) :: t, i, 0, v, h => by cases h; exact List.mem_cons_self
  | .inr (.inr z) :: t, i, j + 1, v, h => by
    have := sw_en_at G t (i + 1) j v h
    rw [show i + (j + 1) = i + 1 + j by omega]
    exact List.mem_cons_of_mem _ this
  | .inr (.inl z) :: t, i, 0, v, h => by cases h; exact List.mem_cons_self
  | .inr (.inl z) :: t, i, 1, v, h => by simp [sw_en, sw_g] at h
  | .inr (.inl z) :: t, i, j + 2, v, h => by
    have := sw_en_at G t (i + 2) j v h
    rw [show i + (j + 2) = i + 2 + j by omega]
    exact List.mem_cons_of_mem _ this
def sw_rt (ret : Option FieldType) (r : Option sw_V) : Prop := match ret, r with
  | none, none => True
  | some .int, some (.inl _) => True
  | some .boolean, some (.inl z) => z = 0 ∨ z = 1
  | some .char, some (.inl z) => 0 ≤ z ∧ z ≤ 65535
  | some .byte, some (.inl z) => -128 ≤ z ∧ z ≤ 127
  | some (.object _), some (.inr (.inr _)) => True
  | _, _ => False
theorem sw_narB {z : Int} (hz : -128 ≤ z ∧ z ≤ 127) : narrow .byte (.int (Int32.ofInt z)) = .int (Int32.ofInt z) := by
  have e : (Int32.ofInt z).toInt8.toInt32 = Int32.ofInt z := by
    rw [sw_b8_of]
    congr 1
    unfold sw_b8
    omega
  show Value.int ((Int32.ofInt z).toInt8.toInt32) = _
  rw [e]
theorem sw_narC {z : Int} (hz : 0 ≤ z ∧ z ≤ 65535) : narrow .char (.int (Int32.ofInt z)) = .int (Int32.ofInt z) := by
  have e : (Int32.ofInt z).toUInt32.toUInt16.toUInt32.toInt32 = Int32.ofInt z := by
    apply Int32.toBitVec_inj.mp
    apply BitVec.eq_of_toNat_eq
    show (((BitVec.ofInt 32 z).setWidth 16).setWidth 32).toNat = (BitVec.ofInt 32 z).toNat
    rw [BitVec.toNat_setWidth, BitVec.toNat_setWidth, BitVec.toNat_ofInt]
    simp only [show ((2 ^ 32 : Nat) : Int) = 4294967296 from rfl, show (2 ^ 32 : Nat) = 4294967296 from rfl, show (2 ^ 16 : Nat) = 65536 from rfl]
    omega
  show Value.int ((Int32.ofInt z).toUInt32.toUInt16.toUInt32.toInt32) = _
  rw [e]
abbrev sw_rm (d : Nat) : Room := { frames := d, cells := 0, slots := 0, locals := 64 * d }
def sw_Pc (G : sw_G) (N : Nat) (S : sw_S) (h : sw_H) (vs : List sw_V) : Array Value → State → Prop := fun v U =>
  v = (vs.map (sw_v G)).toArray ∧ G.1.WarmedH U.vm ∧ va_P G.2.1 vwCl (sw_ws G N S h) U.heap ∧ (∀ q : Nat, q < G.1.heap.size → U.heap[q]? = G.1.heap[q]?) ∧ U.heap.size = G.1.heap.size + N
def sw_Qc (G : sw_G) (N : Nat) (S : sw_S) (Q : Option sw_V → sw_H → Prop) : Array Value → State → Outcome → State → Prop := fun _ st o t =>
  ∃ (r : Option sw_V) (h' : sw_H), o = .returned (r.map (sw_v G)) ∧ Q r h' ∧ (∀ v ∈ r.toList, sw_ok v) ∧ sw_okH S h' ∧ va_P G.2.1 vwCl (sw_ws G N S h') t.heap ∧ va_F (sw_B G) st t
theorem sw_met {G : sw_G} {N : Nat} {S : sw_S} {d : Nat} {M : sw_M} {vs : List sw_V} {h : sw_H} {Q : Option sw_V → sw_H → Prop} (l : Launch) (hg : sw_Gf G) (hN : N ≤ 100000) (hH : sw_okH S h) (hv : ∀ v ∈ vs, sw_ok v) (hp : plainName M.1.cls = true) (hl : (lg_sl (vs.map (sw_v G))).length ≤ M.2.2.1) (hrt : ∀ r h', Q r h' → sw_rt M.2.2.2 r)
    (k : sw_E G N S d M 0 (sw_pad (sw_en vs) M.2.2.1) [] h Q) : Met l M.1 [.code M.1 M.2.1 M.2.2.1 M.2.2.2] (sw_rm d) (sw_Pc G N S h vs) (sw_Qc G N S Q) 0 0 (sw_B G) := by
  refine Met.ofW (cc := M.2.1) (maxL := M.2.2.1) (ret := M.2.2.2) hp rfl ?_
  intro p e s m args below meth c s₁ B hml hPc
  obtain ⟨rfl, hW, hP, hold, hsz⟩ := hPc
  have hx := B.exec
  have hb := B.bytes
  have hr := B.returns
  have hlocks := B.notSynchronized
  have hown : s.vm.findClass M.1.cls = some m.cls := findClass_of_methodNamed B.named
  have hent := lv_entry (vs.map (sw_v G)) (n := M.2.2.1) hl
  rw [lg_entry_eq]
  generalize (lg_sl (vs.map (sw_v G)) ++ List.replicate (M.2.2.1 - (lg_sl (vs.map (sw_v G))).length) Slot.unset).toArray = A at hent ⊢
  refine k p l e _ s m _ below meth c s.heap [] 0 0 _ A ⟨hx, hb, hml, hown, hlocks, hW, hg, hN, hold, by omega, Nat.le_refl _, Nat.le_refl _, Nat.le_refl _, Nat.le_refl _⟩ ⟨hP, va_S.rf⟩ hH (fun v hv => by simp at hv) (fun j v hj => sw_en_ok vs j v hv (by rw [sw_pad_g] at hj; exact hj)) ⟨hent.1, hent.2.1, fun j v hj => ?_⟩ ?_
  · rw [sw_pad_g] at hj
    have := sw_en_at G vs 0 j v hj
    rw [Nat.zero_add] at this
    exact hent.2.2 _ this
  · intro pc' A' H' locs' r h' hd hq ho hH' hW'
    have post : ∀ t : State, t.heap = H' → sw_Qc G N S Q (vs.map (sw_v G)).toArray s (.returned (r.map (sw_v G))) t := fun t ht => ⟨r, h', rfl, hq, ho, hH', by rw [ht]; exact hW'.1, hW'.2.F ht⟩
    have hrt' := hrt r h' hq
    match r, hrt', hd, post with
    | none, hrt', hd, post =>
      have e1 : M.2.2.2 = none := by
        cases hm : M.2.2.2 with
        | none => rfl
        | some t => rw [hm] at hrt'; cases t <;> exact hrt'.elim
      exact W.vret hx hb (hr.trans e1) (fun t ht _ => post t ht) hW'.2.2.2 hd
    | some (.inl z), hrt', hd, post =>
      have e1 : M.2.2.2 = some .int ∨ (M.2.2.2 = some .boolean ∧ (z = 0 ∨ z = 1)) ∨ (M.2.2.2 = some .char ∧ 0 ≤ z ∧ z ≤ 65535) ∨ (M.2.2.2 = some .byte ∧ -128 ≤ z ∧ z ≤ 127) := by
        cases hm : M.2.2.2 with
        | none => rw [hm] at hrt'; exact hrt'.elim
        | some t =>
          rw [hm] at hrt'
          cases t with
          | int => exact Or.inl rfl
          | boolean => exact Or.inr (Or.inl ⟨rfl, hrt'⟩)
          | char => exact Or.inr (Or.inr (Or.inl ⟨rfl, hrt'⟩))
          | byte => exact Or.inr (Or.inr (Or.inr ⟨rfl, hrt'⟩))
          | _ => exact hrt'.elim
      rcases e1 with e1 | ⟨e1, e2⟩ | ⟨e1, e2⟩ | ⟨e1, e2⟩
      · exact W.iret hx hb (hr.trans e1) (fun t ht _ => post t ht) hW'.2.2.2 hd
      · exact W.zret hx hb (hr.trans e1) (by rcases e2 with rfl | rfl <;> rfl) (fun t ht _ => post t ht) hW'.2.2.2 hd
      · exact W.zret hx hb (hr.trans e1) (sw_narC e2) (fun t ht _ => post t ht) hW'.2.2.2 hd
      · exact W.zret hx hb (hr.trans e1) (sw_narB e2) (fun t ht _ => post t ht) hW'.2.2.2 hd
    | some (.inr (.inr a)), hrt', hd, post =>
      have e1 : ∃ o, M.2.2.2 = some (.object o) := by
        cases hm : M.2.2.2 with
        | none => rw [hm] at hrt'; exact hrt'.elim
        | some t =>
          rw [hm] at hrt'
          cases t with
          | object o => exact ⟨o, rfl⟩
          | _ => exact hrt'.elim
      obtain ⟨o, e1⟩ := e1
      exact W.aret hx hb (hr.trans e1) (Or.inl ⟨o, rfl⟩) (Or.inr ⟨_, rfl⟩) (fun t ht _ => post t ht) hW'.2.2.2 hd
    | some (.inr (.inl z)), hrt', hd, post =>
      cases hm : M.2.2.2 with
      | none => rw [hm] at hrt'; exact hrt'.elim
      | some t => rw [hm] at hrt'; cases t <;> exact hrt'.elim

-- ===== A SMALL MACHINE OVER THE KIT'S: ints and longs as Int, references as the numbers of cells, the heap as a function =====
abbrev sw_V : Type := Int ⊕ (Int ⊕ Nat)
abbrev sw_i (z : Int) : sw_V := Sum.inl z
abbrev sw_l (z : Int) : sw_V := Sum.inr (Sum.inl z)
abbrev sw_r (a : Nat) : sw_V := Sum.inr (Sum.inr a)
abbrev sw_H : Type := Nat → Nat → Int
/-- what a cell is: below 100 the class and the kinds of its fields (0 int, 1 long, 2 a reference, 3 + t the cell t for good); 100 int[], 101 byte[], 102 boolean[], 103 long[] (length), 104 references, 105 references to base + step * i -/
abbrev sw_S : Type := Nat → Option (Nat × List Nat)
abbrev sw_M : Type := MethodName × ByteArray × Nat × Option FieldType
abbrev sw_G : Type := State × va_G × (Nat → ClassId) × (Nat → Nat)
abbrev sw_L : Type := List (Option sw_V)
def sw_ad (G : sw_G) (a : Nat) : Nat := if a < 100000 then G.1.heap.size + a else G.2.2.2 a
def sw_v (G : sw_G) : sw_V → Value
  | .inl z => .int (Int32.ofInt z)
  | .inr (.inl z) => .long (Int64.ofInt z)
  | .inr (.inr a) => .ref (sw_ad G a)
def sw_sv (G : sw_G) (k : Nat) (z : Int) : Value := match k with
  | 0 => .int (Int32.ofInt z)
  | 1 => .long (Int64.ofInt z)
  | 2 => if z < 0 then .null else .ref (sw_ad G z.toNat)
  | t + 3 => .ref (sw_ad G t)
def sw_fs (G : sw_G) (f : Nat → Int) : Nat → List Nat → List Value
  | _, [] => []
  | i, k :: l => sw_sv G k (f i) :: sw_fs G f (i + 1) l
def sw_ce (G : sw_G) (f : Nat → Int) : Option (Nat × List Nat) → va_E
  | none => .inr (0, [])
  | some (k, l) =>
    if k < 100 then .inr (k, sw_fs G f 0 l)
    else if k = 103 then .inl (G.2.2.1 3, l.headD 0, .inr (.inl (fun i => Int64.ofInt (f i))))
    else if k = 104 then .inl (G.2.2.1 4, l.headD 0, .inr (.inr (.inr (.inr (fun i => if f i < 0 then none else some (sw_ad G (f i).toNat))))))
    else if k = 105 then .inl (G.2.2.1 4, l.headD 0, .inr (.inr (.inr (.inr (fun i => some (sw_ad G (l.getD 1 0 + l.getD 2 0 * i)))))))
    else .inl (G.2.2.1 (k - 100), l.headD 0, .inl (fun i => Int32.ofInt (f i)))
def sw_ws (G : sw_G) (N : Nat) (S : sw_S) (h : sw_H) : va_W := (List.range N).map (fun a => (sw_ad G a, sw_ce G (h a) (S a)))
def sw_up (h : sw_H) (a i : Nat) (v : Int) : sw_H := fun b j => if b = a ∧ j = i then v else h b j
def sw_ok32 (z : Int) : Prop := -2147483648 ≤ z ∧ z ≤ 2147483647
def sw_ok64 (z : Int) : Prop := -9223372036854775808 ≤ z ∧ z ≤ 9223372036854775807
def sw_ok : sw_V → Prop
  | .inl z => sw_ok32 z
  | .inr (.inl z) => sw_ok64 z
  | .inr (.inr _) => True
def sw_okz (o : Option (Nat × List Nat)) (i : Nat) (z : Int) : Prop := match o with
  | none => sw_ok32 z
  | some (k, l) => if k < 100 then (if l.getD i 0 = 1 then sw_ok64 z else sw_ok32 z) else if k = 103 then sw_ok64 z else if k = 101 then -128 ≤ z ∧ z ≤ 127 else if k = 102 then 0 ≤ z ∧ z ≤ 1 else sw_ok32 z
def sw_okH (S : sw_S) (h : sw_H) : Prop := ∀ a i, sw_okz (S a) i (h a i)
def sw_w (z : Int) : Int := (z + 2147483648) % 4294967296 - 2147483648
def sw_w64 (z : Int) : Int := (z + 9223372036854775808) % 18446744073709551616 - 9223372036854775808
theorem sw_w_ok (z : Int) : sw_ok32 (sw_w z) := by unfold sw_ok32 sw_w; omega
theorem sw_w64_ok (z : Int) : sw_ok64 (sw_w64 z) := by unfold sw_ok64 sw_w64; omega
theorem sw_w_id {z : Int} (h1 : -2147483648 ≤ z) (h2 : z ≤ 2147483647) : sw_w z = z := by unfold sw_w; omega
theorem sw_ti {z : Int} (h : sw_ok32 z) : (Int32.ofInt z).toInt = z := by
  rw [Int32.toInt_ofInt]
  obtain ⟨h1, h2⟩ := h
  have hs : ((Int32.size : Nat) : Int) = 4294967296 := rfl
  rw [Int.bmod_eq_of_le] <;> omega
theorem sw_tl {z : Int} (h : sw_ok64 z) : (Int64.ofInt z).toInt = z := by
  rw [Int64.toInt_ofInt]
  obtain ⟨h1, h2⟩ := h
  have hs : ((Int64.size : Nat) : Int) = 18446744073709551616 := rfl
  rw [Int.bmod_eq_of_le] <;> omega
theorem sw_ofw (z : Int) : Int32.ofInt (sw_w z) = Int32.ofInt z := by
  apply Int32.toInt_inj.mp
  rw [sw_ti (sw_w_ok z), Int32.toInt_ofInt]
  unfold sw_w
  rw [Int.bmod_def]
  simp only [show ((2 ^ 32 : Nat) : Int) = 4294967296 from rfl]
  split <;> omega
theorem sw_ofw64 (z : Int) : Int64.ofInt (sw_w64 z) = Int64.ofInt z := by
  apply Int64.toInt_inj.mp
  rw [sw_tl (sw_w64_ok z), Int64.toInt_ofInt]
  unfold sw_w64
  rw [Int.bmod_def]
  simp only [show ((2 ^ 64 : Nat) : Int) = 18446744073709551616 from rfl]
  split <;> omega
theorem sw_i32_ok (x : Int32) : sw_ok32 x.toInt := by
  have h1 := x.toInt_lt
  have h2 := x.le_toInt
  unfold sw_ok32
  omega
theorem sw_i64_ok (x : Int64) : sw_ok64 x.toInt := by
  have h1 := x.toInt_lt
  have h2 := x.le_toInt
  unfold sw_ok64
  omega
theorem sw_lt {x y : Int} (hx : sw_ok32 x) (hy : sw_ok32 y) : Int32.ofInt x < Int32.ofInt y ↔ x < y := by
  rw [Int32.lt_iff_toInt_lt, sw_ti hx, sw_ti hy]
theorem sw_le {x y : Int} (hx : sw_ok32 x) (hy : sw_ok32 y) : Int32.ofInt x ≤ Int32.ofInt y ↔ x ≤ y := by
  rw [Int32.le_iff_toInt_le, sw_ti hx, sw_ti hy]
theorem sw_eq {x y : Int} (hx : sw_ok32 x) (hy : sw_ok32 y) : Int32.ofInt x = Int32.ofInt y ↔ x = y := by
  constructor
  · intro h
    have := congrArg Int32.toInt h
    rwa [sw_ti hx, sw_ti hy] at this
  · rintro rfl; rfl
theorem sw_in {i : Int} {n : Nat} (h0 : 0 ≤ i) (h1 : i < n) (hn : n ≤ 65536) : vp_in (Int32.ofInt i) n ∧ (Int32.ofInt i).toNatClampNeg = i.toNat := by
  have ho : sw_ok32 i := by unfold sw_ok32; omega
  have e : (Int32.ofInt i).toNatClampNeg = i.toNat := by
    show (Int32.ofInt i).toInt.toNat = i.toNat
    rw [sw_ti ho]
  refine ⟨?_, e⟩
  unfold vp_in
  rw [e]
  rintro (h | h)
  · rw [show (0 : Int32) = Int32.ofInt 0 from rfl, sw_lt ho (by unfold sw_ok32; omega)] at h
    omega
  · omega
-- ===== the locals =====
def sw_g : sw_L → Nat → Option sw_V
  | [], _ => none
  | x :: _, 0 => x
  | _ :: t, n + 1 => sw_g t n
def sw_k : Option sw_V → Option sw_V
  | some (.inr (.inl _)) => none
  | x => x
def sw_k0 (n : Nat) (x : Option sw_V) : Option sw_V := match n with
  | 0 => sw_k x
  | _ + 1 => x
def sw_s : sw_L → Nat → sw_V → sw_L
  | [], _, _ => []
  | _ :: t, 0, v => some v :: t
  | x :: t, n + 1, v => sw_k0 n x :: sw_s t n v
def sw_s2 : sw_L → Nat → sw_V → sw_L
  | [], _, _ => []
  | _ :: t, 0, v => some v :: (match t with | [] => [] | _ :: t' => none :: t')
  | x :: t, n + 1, v => sw_k0 n x :: sw_s2 t n v
theorem sw_k0_of {n : Nat} {x : Option sw_V} {w : sw_V} (h : sw_k0 n x = some w) : x = some w ∧ ¬ (n = 0 ∧ ∃ z, w = sw_l z) := by
  cases n with
  | zero =>
    match x, h with
    | some (.inl z), h => exact ⟨h, fun ⟨_, z', e⟩ => by cases h; cases e⟩
    | some (.inr (.inr z)), h => exact ⟨h, fun ⟨_, z', e⟩ => by cases h; cases e⟩
  | succ n => exact ⟨h, fun ⟨e, _⟩ => by cases e⟩
theorem sw_s_of : ∀ (f : sw_L) (i : Nat) (v : sw_V) (j : Nat) (w : sw_V), sw_g (sw_s f i v) j = some w → (j = i ∧ w = v) ∨ (j ≠ i ∧ sw_g f j = some w ∧ ¬ (j + 1 = i ∧ ∃ z, w = sw_l z))
  | [], _, _, _, _, h => by simp [sw_s, sw_g] at h
  | x :: t, 0, v, 0, w, h => by simp only [sw_s, sw_g, Option.some.injEq] at h; exact Or.inl ⟨rfl, h.symm⟩
  | x :: t, 0, v, j + 1, w, h => by
    refine Or.inr ⟨by omega, h, by omega⟩
  | x :: t, n + 1, v, 0, w, h => by
    obtain ⟨h1, h2⟩ := sw_k0_of (show sw_k0 n x = some w from h)
    exact Or.inr ⟨by omega, h1, fun ⟨e, z⟩ => h2 ⟨by omega, z⟩⟩
  | x :: t, n + 1, v, j + 1, w, h => by
    rcases sw_s_of t n v j w h with ⟨e1, e2⟩ | ⟨e1, e2, e3⟩
    · exact Or.inl ⟨by omega, e2⟩
    · exact Or.inr ⟨by omega, e2, fun ⟨e, z⟩ => e3 ⟨by omega, z⟩⟩
theorem sw_s2_of : ∀ (f : sw_L) (i : Nat) (v : sw_V) (j : Nat) (w : sw_V), sw_g (sw_s2 f i v) j = some w → (j = i ∧ w = v) ∨ (j ≠ i ∧ j ≠ i + 1 ∧ sw_g f j = some w ∧ ¬ (j + 1 = i ∧ ∃ z, w = sw_l z))
  | [], _, _, _, _, h => by simp [sw_s2, sw_g] at h
  | x :: t, 0, v, 0, w, h => by simp only [sw_s2, sw_g, Option.some.injEq] at h; exact Or.inl ⟨rfl, h.symm⟩
  | x :: [], 0, v, j + 1, w, h => by simp [sw_s2, sw_g] at h
  | x :: y :: t, 0, v, 1, w, h => by simp [sw_s2, sw_g] at h
  | x :: y :: t, 0, v, j + 2, w, h => Or.inr ⟨by omega, by omega, h, by omega⟩
  | x :: t, n + 1, v, 0, w, h => by
    obtain ⟨h1, h2⟩ := sw_k0_of (show sw_k0 n x = some w from h)
    exact Or.inr ⟨by omega, by omega, h1, fun ⟨e, z⟩ => h2 ⟨by omega, z⟩⟩
  | x :: t, n + 1, v, j + 1, w, h => by
    rcases sw_s2_of t n v j w h with ⟨e1, e2⟩ | ⟨e1, e2, e3, e4⟩
    · exact Or.inl ⟨by omega, e2⟩
    · exact Or.inr ⟨by omega, by omega, e3, fun ⟨e, z⟩ => e4 ⟨by omega, z⟩⟩
def sw_R (G : sw_G) (A : Array Slot) (n : Nat) (f : sw_L) : Prop := A.size = n ∧ lv_wf A ∧ ∀ (j : Nat) (v : sw_V), sw_g f j = some v → A[j]? = some (.val (sw_v G v))
theorem sw_g_lt : ∀ (f : sw_L) (j : Nat) (v : sw_V), sw_g f j = some v → j < f.length
  | [], _, _, h => by simp [sw_g] at h
  | _ :: _, 0, _, _ => by simp
  | _ :: t, n + 1, v, h => by have := sw_g_lt t n v h; simp only [List.length_cons]; omega
def sw_as (G : sw_G) (f : sw_L) : List (Nat × Value) := (List.range f.length).filterMap (fun j => (sw_g f j).map (fun v => (j, sw_v G v)))
theorem sw_as_mem {G : sw_G} {f : sw_L} {q : Nat × Value} : q ∈ sw_as G f ↔ ∃ v, sw_g f q.1 = some v ∧ q.2 = sw_v G v := by
  unfold sw_as
  rw [List.mem_filterMap]
  constructor
  · rintro ⟨j, -, hj⟩
    obtain ⟨v, hv, rfl⟩ := Option.map_eq_some_iff.mp hj
    exact ⟨v, hv, rfl⟩
  · rintro ⟨v, hv, e⟩
    refine ⟨q.1, List.mem_range.mpr (sw_g_lt _ _ _ hv), ?_⟩
    rw [hv, Option.map_some, ← e]
theorem sw_R.has {G : sw_G} {A : Array Slot} {n : Nat} {f : sw_L} (h : sw_R G A n f) : lv_has A n (sw_as G f) := by
  refine ⟨h.1, h.2.1, fun q hq => ?_⟩
  obtain ⟨v, hv, e⟩ := sw_as_mem.mp hq
  rw [e]
  exact h.2.2 _ _ hv
theorem sw_cat_l {G : sw_G} {v : sw_V} (h : (sw_v G v).category = 2) : ∃ z, v = sw_l z := by
  match v, h with
  | .inr (.inl z), _ => exact ⟨z, rfl⟩
theorem sw_R.store {G : sw_G} {A : Array Slot} {n : Nat} {f : sw_L} {i : Nat} {v : sw_V} (h : lv_has A n ((i, sw_v G v) :: (sw_as G f).filter (fun q => !(q.1 == i) && !(q.1 + 1 == i && q.2.category == 2)))) : sw_R G A n (sw_s f i v) := by
  refine ⟨h.1, h.2.1, fun j w hj => ?_⟩
  rcases sw_s_of f i v j w hj with ⟨rfl, rfl⟩ | ⟨h1, h2, h3⟩
  · exact h.2.2 (j, sw_v G w) List.mem_cons_self
  · refine h.2.2 (j, sw_v G w) (List.mem_cons_of_mem _ (List.mem_filter.mpr ⟨sw_as_mem.mpr ⟨w, h2, rfl⟩, ?_⟩))
    simp only [Bool.and_eq_true, Bool.not_eq_true', beq_eq_false_iff_ne, ne_eq, Bool.and_eq_false_iff]
    refine ⟨h1, ?_⟩
    by_cases hc : (sw_v G w).category = 2
    · exact Or.inl (fun e => h3 ⟨e, sw_cat_l hc⟩)
    · exact Or.inr hc
theorem sw_R.store2 {G : sw_G} {A : Array Slot} {n : Nat} {f : sw_L} {i : Nat} {v : sw_V} (h : lv_has A n ((i, sw_v G v) :: (sw_as G f).filter (fun q => !(q.1 == i) && (!(q.1 == i + 1) && !(q.1 + 1 == i && q.2.category == 2))))) : sw_R G A n (sw_s2 f i v) := by
  refine ⟨h.1, h.2.1, fun j w hj => ?_⟩
  rcases sw_s2_of f i v j w hj with ⟨rfl, rfl⟩ | ⟨h1, h0, h2, h3⟩
  · exact h.2.2 (j, sw_v G w) List.mem_cons_self
  · refine h.2.2 (j, sw_v G w) (List.mem_cons_of_mem _ (List.mem_filter.mpr ⟨sw_as_mem.mpr ⟨w, h2, rfl⟩, ?_⟩))
    simp only [Bool.and_eq_true, Bool.not_eq_true', beq_eq_false_iff_ne, ne_eq, Bool.and_eq_false_iff]
    refine ⟨h1, h0, ?_⟩
    by_cases hc : (sw_v G w).category = 2
    · exact Or.inl (fun e => h3 ⟨e, sw_cat_l hc⟩)
    · exact Or.inr hc

-- ===== the reference: what holds at every time, what is kept =====
def omt_o (k : Nat) : Option (Int × Int) := match k with | 2 => some (0, 1600) | 3 => some (0, 1600) | 4 => some (0, 7) | 6 => some (0, 1700) | 7 => some (0, 1700) | 8 => some (0, 5) | 9 => some (0, 9999) | 36 => some (0, 1) | 37 => some (0, 1) | 52 => some (0, 1) | 71 => some (-1, 14) | 73 => some (0, 40) | 74 => some (0, 40) | 79 => some (0, 364) | 83 => some (0, 64) | 99 => some (0, 30) | 100 => some (0, 100000) | _ => none
def omt_a (k : Nat) : Option (Int × Int) := if k % 34 = 30 then some (0, 24) else if k % 34 = 31 then some (0, 6) else none
def omt (a k : Nat) : Option (Int × Int) := if a < 256 then if a < 128 then none else if a < 192 then none else if a < 224 then none else if a < 240 then if a < 232 then if a < 228 then if a < 226 then if a < 225 then omt_o k else none else if a < 227 then none else some (0, 6) else if a < 230 then if a < 229 then some (0, 60) else some (0, 60) else if a < 231 then some (0, 100) else none else if a < 236 then if a < 234 then if a < 233 then none else some (0, 60) else if a < 235 then some (0, 20) else none else none else if a < 248 then if a < 244 then if a < 242 then if a < 241 then some (0, 7) else some (0, 9999) else if a < 243 then none else some (-1, 119) else none else if a < 252 then none else if a < 254 then if a < 253 then none else some (0, 119) else none else if a < 384 then if a < 320 then if a < 288 then if a < 272 then if a < 264 then if a < 260 then none else if a < 262 then if a < 261 then none else omt_a k else none else if a < 268 then if a < 266 then none else if a < 267 then none else omt_a k else none else none else if a < 304 then if a < 296 then if a < 292 then if a < 290 then if a < 289 then omt_a k else none else none else none else none else none else none else none
def omc (a k : Nat) (z : Int) : Prop := match omt a k with | none => True | some p => p.1 ≤ z ∧ z ≤ p.2
def mI (h : sw_H) : Prop := ∀ a k, omc a k (h a k)
def mK (pr : Nat → Nat → Bool) (g h : sw_H) : Prop := mI h ∧ ∀ a k, pr a k = true → h a k = g a k
theorem mK.refl {pr : Nat → Nat → Bool} {h : sw_H} (hJ : mI h) : mK pr h h := ⟨hJ, fun _ _ _ => rfl⟩
theorem mK.up {pr : Nat → Nat → Bool} {g h h1 : sw_H} {a k : Nat} {z : Int} (hK : mK pr g h) (e : sw_to h h1 a k z) (ok : omc a k z) (np : pr a k = false) : mK pr g h1 := by
  refine ⟨fun b j => ?_, fun b j hb => ?_⟩
  · by_cases q : b = a ∧ j = k
    · obtain ⟨rfl, rfl⟩ := q
      rw [e.1]
      exact ok
    · rw [e.2 b j q]
      exact hK.1 b j
  · rw [e.2 b j (fun q => by obtain ⟨rfl, rfl⟩ := q; rw [np] at hb; cases hb)]
    exact hK.2 b j hb
theorem mK.tr {p p2 : Nat → Nat → Bool} {g h h1 : sw_H} (hK : mK p g h) (h2 : mK p2 h h1) (hp : ∀ a k, p a k = true → p2 a k = true) : mK p g h1 := ⟨h2.1, fun a k q => (h2.2 a k (hp a k q)).trans (hK.2 a k q)⟩
/-- all is kept but these fields of the object and these arrays -/
def prW (fs as : List Nat) (a k : Nat) : Bool := !((a == 224 && fs.contains k) || as.contains a)
/-- a place of the CODE in bank b -/
def bk (b a k : Nat) : Bool := if a < 227 then false else if a ≤ 232 then k == b else if a ≤ 239 then decide (6 * b ≤ k ∧ k < 6 * b + 6) else if a ≤ 243 then decide (60 * b ≤ k ∧ k < 60 * b + 60) else if a ≤ 245 then k == b else if a ≤ 246 then decide (6 * b ≤ k ∧ k < 6 * b + 6) else if a ≤ 248 then decide (560 * b ≤ k ∧ k < 560 * b + 560) else false
def prB (b : Nat) (fs as : List Nat) (a k : Nat) : Bool := prW fs as a k || bk b a k
theorem prW_sub {fs as fs' as' : List Nat} (h1 : fs'.all (fun x => fs.contains x) = true) (h2 : as'.all (fun x => as.contains x) = true) : ∀ a k, prW fs as a k = true → prW fs' as' a k = true := by
  intro a k h
  rw [List.all_eq_true] at h1 h2
  simp only [prW, Bool.not_eq_true', Bool.or_eq_false_iff, Bool.and_eq_false_iff, beq_eq_false_iff_ne, ne_eq] at h ⊢
  refine ⟨?_, ?_⟩
  · rcases h.1 with q | q
    · exact Or.inl q
    · refine Or.inr ?_
      cases e : fs'.contains k with
      | false => rfl
      | true => rw [h1 k (List.contains_iff_mem.mp e)] at q; cases q
  · cases e : as'.contains a with
    | false => rfl
    | true => have := h.2; rw [h2 a (List.contains_iff_mem.mp e)] at this; cases this
theorem prB_sub {b : Nat} {fs as fs' as' : List Nat} (h1 : fs'.all (fun x => fs.contains x) = true) (h2 : as'.all (fun x => as.contains x) = true) : ∀ a k, prB b fs as a k = true → prB b fs' as' a k = true := by
  intro a k h
  unfold prB at h ⊢
  rcases Bool.or_eq_true_iff.mp h with q | q
  · rw [prW_sub h1 h2 a k q]; rfl
  · rw [q, Bool.or_true]
theorem bk_rng {b a k : Nat} (h : bk b a k = true) : 227 ≤ a ∧ a ≤ 248 := by
  unfold bk at h
  by_cases q1 : a < 227
  · simp [q1] at h
  · by_cases q2 : 248 < a
    · simp only [if_neg q1, if_neg (show ¬ a ≤ 232 by omega), if_neg (show ¬ a ≤ 239 by omega), if_neg (show ¬ a ≤ 243 by omega), if_neg (show ¬ a ≤ 245 by omega), if_neg (show ¬ a ≤ 246 by omega), if_neg (show ¬ a ≤ 248 by omega)] at h
      cases h
    · omega
theorem prBW_sub {b : Nat} {fs as fs' as' : List Nat} (h1 : fs'.all (fun x => fs.contains x) = true) (h2 : as'.all (fun x => as.contains x) = true) (h3 : as'.all (fun x => decide (x < 227 ∨ 248 < x)) = true) : ∀ a k, prB b fs as a k = true → prW fs' as' a k = true := by
  intro a k h
  unfold prB at h
  rcases Bool.or_eq_true_iff.mp h with q | q
  · exact prW_sub h1 h2 a k q
  · have hr := bk_rng q
    rw [List.all_eq_true] at h3
    simp only [prW, Bool.not_eq_true', Bool.or_eq_false_iff, Bool.and_eq_false_iff, beq_eq_false_iff_ne, ne_eq]
    refine ⟨Or.inl (by omega), ?_⟩
    cases e : as'.contains a with
    | false => rfl
    | true => have := of_decide_eq_true (h3 a (List.contains_iff_mem.mp e)); omega
theorem omc_all_lt {a k : Nat} {z : Int} (ha : a = 261 ∨ a = 267 ∨ a = 288) (h1 : k % 34 ≠ 30) (h2 : k % 34 ≠ 31) : omc a k z := by
  have e : omt a k = none := by
    have e0 : omt a k = omt_a k := by rcases ha with rfl | rfl | rfl <;> rfl
    rw [e0]; unfold omt_a; rw [if_neg h1, if_neg h2]
  unfold omc; rw [e]; trivial
theorem omc_all_eq {a b k j : Nat} {z : Int} (ha : a = 261 ∨ a = 267 ∨ a = 288) (hb : b = 261 ∨ b = 267 ∨ b = 288) (hk : k % 34 = j % 34) : omc a k z → omc b j z := by
  have e0 : omt a k = omt_a k := by rcases ha with rfl | rfl | rfl <;> rfl
  have e1 : omt b j = omt_a j := by rcases hb with rfl | rfl | rfl <;> rfl
  have e2 : omt_a k = omt_a j := by unfold omt_a; rw [hk]
  intro h
  unfold omc at h ⊢
  rw [e0, e2] at h
  rw [e1]
  exact h
theorem omc_all_0 {a k : Nat} (ha : a = 261 ∨ a = 267 ∨ a = 288) : omc a k 0 := by
  have e0 : omt a k = omt_a k := by rcases ha with rfl | rfl | rfl <;> rfl
  unfold omc
  rw [e0]
  unfold omt_a
  split
  · trivial
  · rename_i p hp
    split at hp
    · cases hp; exact ⟨by decide, by decide⟩
    · split at hp
      · cases hp; exact ⟨by decide, by decide⟩
      · cases hp
theorem tmod_rng {x y : Int} (hx : 0 ≤ x) (hy : 0 < y) : 0 ≤ x.tmod y ∧ x.tmod y < y := ⟨Int.tmod_nonneg y hx, Int.tmod_lt_of_pos x hy⟩
def pw (a : Int) : Nat → Int
  | 0 => 1
  | n + 1 => sw_w (pw a n * a)
theorem pw_step (a k : Int) (hk : 0 ≤ k) : pw a (k + 1).toNat = sw_w (pw a k.toNat * a) := by
  have e : (k + 1).toNat = k.toNat + 1 := by omega
  rw [e]
  rfl
/-- how many digits -/
def dgs (v : Int) : Int := if v ≤ 0 then 0 else if v < 10 then 1 else if v < 100 then 2 else if v < 1000 then 3 else if v < 10000 then 4 else if v < 100000 then 5 else if v < 1000000 then 6 else 7
/-- the sort and the argument of an ITEM, a THING thought in the place of the last WORD's first -/
def sO (h : sw_H) (w i : Int) : Int := if 0 ≤ h 224 71 ∧ i = 0 ∧ w = h 227 (h 224 36).toNat - 1 then 0 else h 240 (60 * h 224 36 + h 233 (6 * h 224 36 + w).toNat + i).toNat
def wO (h : sw_H) (w i : Int) : Int := if 0 ≤ h 224 71 ∧ i = 0 ∧ w = h 227 (h 224 36).toNat - 1 then h 224 71 else h 241 (60 * h 224 36 + h 233 (6 * h 224 36 + w).toNat + i).toNat
theorem sw_to.at {h h1 : sw_H} {a k : Nat} {z : Int} (e : sw_to h h1 a k z) (b j : Nat) : h1 b j = if b = a ∧ j = k then z else h b j := by
  by_cases q : b = a ∧ j = k
  · rw [if_pos q, q.1, q.2, e.1]
  · rw [if_neg q, e.2 b j q]
/-- the places on which the CODE hangs -/
def cdP (a k : Nat) : Bool := (a == 224 && (k == 36 || k == 71)) || (decide (227 ≤ a) && decide (a ≤ 248))
def cdK (h h' : sw_H) : Prop := ∀ a k, cdP a k = true → h' a k = h a k
theorem mK.cd {fs as : List Nat} {h h' : sw_H} (K : mK (prW fs as) h h') (hf : fs.all (fun x => !(x == 36 || x == 71)) = true) (ha : as.all (fun x => decide (x ≠ 224 ∧ (x < 227 ∨ 248 < x))) = true) : cdK h h' := by
  intro a k q
  refine K.2 a k ?_
  rw [List.all_eq_true] at hf ha
  simp only [cdP, Bool.or_eq_true, Bool.and_eq_true, beq_iff_eq, decide_eq_true_eq] at q
  simp only [prW, Bool.not_eq_true', Bool.or_eq_false_iff, Bool.and_eq_false_iff, beq_eq_false_iff_ne, ne_eq]
  refine ⟨?_, ?_⟩
  · by_cases e : a = 224
    · right
      cases c : fs.contains k with
      | false => rfl
      | true =>
        have := hf k (List.contains_iff_mem.mp c)
        simp only [Bool.not_eq_true', Bool.or_eq_false_iff, beq_eq_false_iff_ne, ne_eq] at this
        omega
    · exact Or.inl e
  · cases c : as.contains a with
    | false => rfl
    | true => have := of_decide_eq_true (ha a (List.contains_iff_mem.mp c)); omega
theorem cdK.tr {h h1 h2 : sw_H} (e : cdK h h1) (f : cdK h1 h2) : cdK h h2 := fun a k q => (f a k q).trans (e a k q)
theorem sO_cd {h h' : sw_H} (e : cdK h h') : sO h' = sO h := by
  funext w i
  unfold sO
  rw [e 224 71 rfl, e 224 36 rfl, e 227 _ rfl, e 233 _ rfl, e 240 _ rfl]
theorem wO_cd {h h' : sw_H} (e : cdK h h') : wO h' = wO h := by
  funext w i
  unfold wO
  rw [e 224 71 rfl, e 224 36 rfl, e 227 _ rfl, e 233 _ rfl, e 241 _ rfl]
/-- the cells behind a shuffle -/
def shC (t c : Int) (f : Nat → Int) (k : Nat) : Int :=
  if t = 0 then (if (k : Int) = c then f (c - 1).toNat else f k)
  else if t = 1 then f k
  else if t = 2 then (if (k : Int) = c - 2 then f (c - 1).toNat else if (k : Int) = c - 1 then f (c - 2).toNat else f k)
  else if t = 3 then (if (k : Int) = c then f (c - 2).toNat else f k)
  else if t = 4 then (if (k : Int) = c - 3 then f (c - 2).toNat else if (k : Int) = c - 2 then f (c - 1).toNat else if (k : Int) = c - 1 then f (c - 3).toNat else f k)
  else if t = 5 then (if (k : Int) = c - 2 then f (c - 1).toNat else f k)
  else (if (k : Int) = c - 2 then f (c - 1).toNat else if (k : Int) = c - 1 then f (c - 2).toNat else if (k : Int) = c then f (c - 1).toNat else f k)
/-- the text's byte at a place, 0 behind its end -/
def sgn (h : sw_H) (k : Int) : Int := if h 224 3 ≤ k then 0 else (Int32.ofInt (h 226 k.toNat) &&& Int32.ofInt 255).toInt
theorem sgn_to {h h1 : sw_H} {k : Nat} {z : Int} (e : sw_to h h1 224 k z) (hk : k ≠ 3) (j : Int) : sgn h1 j = sgn h j := by
  unfold sgn
  rw [e.2 224 3 (by omega), e.2 226 j.toNat (by omega)]
/-- the low bits of an int -/
theorem iand_rng (x : Int) : 0 ≤ (Int32.ofInt x &&& Int32.ofInt 255).toInt ∧ (Int32.ofInt x &&& Int32.ofInt 255).toInt ≤ 255 := by
  have e : (Int32.ofInt x &&& Int32.ofInt 255).toInt = ((BitVec.ofInt 32 x &&& BitVec.ofInt 32 255)).toInt := rfl
  rw [e, BitVec.toInt_eq_toNat_cond, BitVec.toNat_and]
  have h : (BitVec.ofInt 32 x).toNat &&& (BitVec.ofInt 32 255).toNat ≤ (BitVec.ofInt 32 255).toNat := Nat.and_le_right
  have h2 : (BitVec.ofInt 32 255).toNat = 255 := by decide
  rw [h2] at h ⊢
  split <;> omega

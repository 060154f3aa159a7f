-- ===== the look over a WORD's ITEMS, one by one =====
def kN (h : sw_H) (c : Int) : Int := h 235 (6 * h 224 52 + c).toNat
def kL (h : sw_H) (c : Int) : Int := h 236 (6 * h 224 52 + c).toNat
def kH (h : sw_H) (c : Int) : Int := h 237 (6 * h 224 52 + c).toNat
def nx (H : Nat → Int) (i : Nat) (z : Int) : Nat → Int := fun x => if x ≤ i then H x else z
theorem nx_le {H : Nat → Int} {i x : Nat} {z : Int} (h : x ≤ i) : nx H i z x = H x := if_pos h
theorem nx_new {H : Nat → Int} {i : Nat} {z : Int} : nx H i z (i + 1) = z := if_neg (by omega)
theorem tL_ext {s v : Nat → Int} {cn cl ch : Int → Int} {nd hi nd' hi' : Int} {H U H' U' : Nat → Int} {i j : Nat} (hj : j < i) (hn : nd ≤ nd') (hh : hi ≤ hi') (eH : ∀ x, x ≤ i → H' x = H x) (eU : ∀ x, x ≤ i → U' x = U x) (k : tL s v cn cl ch nd hi H U j) : tL s v cn cl ch nd' hi' H' U' j := by
  obtain ⟨k0, k1, k2, k3, k4, k5, k6, k7⟩ := k
  have a1 := eH j (by omega)
  have a2 := eH (j + 1) (by omega)
  have b1 := eU j (by omega)
  have b2 := eU (j + 1) (by omega)
  refine ⟨fun q => ?_, fun q => ?_, fun q => ?_, fun q => ?_, fun q p r e => ?_, fun q => ?_, fun q => ?_, fun q => ?_⟩
  · have := k0 q; exact ⟨by omega, by omega, by omega, fun q8 => by have := this.2.2.2 q8; omega⟩
  · have := k1 q; omega
  · have := k2 q; omega
  · have := k3 q; omega
  · have := k4 q p r e
    have hp := (tT_head e).1
    have c1 := eH (p + 1) (by omega)
    have c2 := eU (p + 1) (by omega)
    omega
  · have := k5 q
    refine ⟨by omega, by omega, fun p r e => ?_⟩
    have t := this.2.2 p r e
    have hp := (tT_head e).1
    have c1 := eH (p + 1) (by omega)
    have c2 := eU (p + 1) (by omega)
    have c3 := eH p (by omega)
    have c4 := eU p (by omega)
    exact ⟨fun q3 => by have := t.1 q3; omega, fun q4 => by have := t.2 q4; omega⟩
  · have := k6 q; omega
  · have := k7 q
    refine ⟨by omega, by omega, fun p r e => ?_⟩
    have t := this.2.2 p r e
    have hp := (tT_head e).1
    have c1 := eH (p + 1) (by omega)
    have c2 := eU (p + 1) (by omega)
    omega
/-- what is kept of an open one -/
def LE (h : sw_H) (f : Int) (s H U : Nat → Int) (p o : Nat) : Prop := h 253 o = f + p ∧ h 252 o = s p ∧ h 254 o = H (p + 1) ∧ h 255 o = U (p + 1) ∧ (s p = 4 → h 256 o = H p ∧ h 257 o = U p)
def LI (h : sw_H) (f : Int) (s v : Nat → Int) (i : Nat) (H U : Nat → Int) : Prop :=
  H 0 = 0 ∧ U 0 = 0 ∧ h 224 53 = H i ∧ h 224 54 = U i ∧ 0 ≤ h 224 56 ∧ h 224 56 ≤ 6 ∧ 0 ≤ h 224 57 ∧ h 224 57 ≤ 12 ∧ h 224 55 = ((tT s i).length : Nat) ∧ h 224 55 ≤ 4 ∧
  (∀ j, j ≤ i → -(h 224 56) ≤ H j ∧ H j ≤ h 224 57 ∧ 0 ≤ U j ∧ U j ≤ 6) ∧
  (∀ j, j < i → tL s v (kN h) (kL h) (kH h) (h 224 56) (h 224 57) H U j) ∧
  (∀ pre p r, tT s i = pre ++ p :: r → LE h f s H U p (r.length + 1))
theorem LE_ext {h h' : sw_H} {f : Int} {s H U : Nat → Int} {p o i : Nat} {z y : Int} (hp : p < i) (e : ∀ a, 252 ≤ a → a ≤ 257 → h' a o = h a o) (k : LE h f s H U p o) : LE h' f s (nx H i z) (nx U i y) p o := by
  obtain ⟨k1, k2, k3, k4, k5⟩ := k
  refine ⟨by rw [e 253 (by omega) (by omega)]; exact k1, by rw [e 252 (by omega) (by omega)]; exact k2, by rw [e 254 (by omega) (by omega), nx_le (by omega)]; exact k3, by rw [e 255 (by omega) (by omega), nx_le (by omega)]; exact k4, fun q => ?_⟩
  rw [e 256 (by omega) (by omega), e 257 (by omega) (by omega), nx_le (by omega), nx_le (by omega)]
  exact k5 q
theorem LI_next {h h' : sw_H} {f : Int} {s v : Nat → Int} {i : Nat} {H U : Nat → Int} (L : LI h f s v i H U) (ek : kN h' = kN h ∧ kL h' = kL h ∧ kH h' = kH h) (n1 : h 224 56 ≤ h' 224 56) (n2 : h' 224 56 ≤ 6) (n3 : h 224 57 ≤ h' 224 57) (n4 : h' 224 57 ≤ 12) (u : 0 ≤ h' 224 54 ∧ h' 224 54 ≤ 6) (r : -(h' 224 56) ≤ h' 224 53 ∧ h' 224 53 ≤ h' 224 57) (o : h' 224 55 = ((tT s (i + 1)).length : Nat)) (o4 : h' 224 55 ≤ 4)
    (st : ∀ pre p r, tT s (i + 1) = pre ++ p :: r → LE h' f s (nx H i (h' 224 53)) (nx U i (h' 224 54)) p (r.length + 1)) (tl : tL s v (kN h) (kL h) (kH h) (h' 224 56) (h' 224 57) (nx H i (h' 224 53)) (nx U i (h' 224 54)) i) : LI h' f s v (i + 1) (nx H i (h' 224 53)) (nx U i (h' 224 54)) := by
  obtain ⟨l1, l2, l3, l4, l5, l6, l7, l8, l9, l10, l11, l12, l13⟩ := L
  refine ⟨by rw [nx_le (by omega)]; exact l1, by rw [nx_le (by omega)]; exact l2, nx_new.symm, nx_new.symm, by omega, n2, by omega, n4, o, o4, fun j hj => ?_, fun j hj => ?_, st⟩
  · by_cases q : j ≤ i
    · rw [nx_le q, nx_le q]
      have := l11 j q
      omega
    · have e : j = i + 1 := by omega
      rw [e, nx_new, nx_new]
      omega
  · rw [ek.1, ek.2.1, ek.2.2]
    by_cases q : j < i
    · exact tL_ext q n1 n3 (fun x hx => nx_le hx) (fun x hx => nx_le hx) (l12 j q)
    · have e : j = i := by omega
      rw [e]
      exact tl
/-- what becomes of the jumps -/
def GP (h0 h' : sw_H) (f : Int) (s : Nat → Int) (i : Nat) : Prop :=
  (∀ k : Nat, (k : Int) ≠ f + i → (∀ p r, tT s i = p :: r → s i = 4 ∨ s i = 5 ∨ s i = 7 → (k : Int) ≠ f + p) → h' 243 k = h0 243 k) ∧
  (∀ p r, tT s i = p :: r → s i = 4 ∨ s i = 5 ∨ s i = 7 → h' 243 (f + p).toNat = f + i) ∧
  (∀ p r, tT s i = p :: r → s i = 5 ∨ s i = 7 → h' 243 (f + i).toNat = f + p) ∧
  (h0 224 51 ≠ 0 → s i ≠ 5 → s i ≠ 7 → h' 243 (f + i).toNat = h0 243 (f + i).toNat)
abbrev WLk (b : Nat) : Nat → Nat → Bool := prB b [53, 54, 55, 56, 57, 58] [243, 252, 253, 254, 255, 256, 257, 258, 259, 260]
theorem WLk_k {b : Nat} {h h' : sw_H} (K : mK (WLk b) h h') : kN h' = kN h ∧ kL h' = kL h ∧ kH h' = kH h := by
  refine ⟨?_, ?_, ?_⟩ <;> funext c
  · unfold kN; rw [K.2 224 52 rfl, K.2 235 _ rfl]
  · unfold kL; rw [K.2 224 52 rfl, K.2 236 _ rfl]
  · unfold kH; rw [K.2 224 52 rfl, K.2 237 _ rfl]
theorem tL_of {s v : Nat → Int} {cn cl ch : Int → Int} {nd hi : Int} {H U : Nat → Int} {j : Nat} (n : Int) (hn : s j = n) (h0 : n = 0 → -nd ≤ H j - tk (v j) ∧ H (j + 1) = H j - tk (v j) + ld (v j) ∧ U (j + 1) = U j + pu (v j) ∧ (v j = 8 → 1 ≤ U j)) (h1 : n = 1 → H (j + 1) = H j + 1 ∧ U (j + 1) = U j) (h2 : n = 2 → -nd ≤ H j - cn (v j) ∧ H j + ch (v j) ≤ hi ∧ H (j + 1) = H j + cl (v j) ∧ U (j + 1) = U j) (h3 : n = 3 → -nd ≤ H j - 1 ∧ H (j + 1) = H j - 1 ∧ U (j + 1) = U j)
    (h4 : n = 4 → ∀ p r, tT s j = p :: r → H (j + 1) = H (p + 1) ∧ U (j + 1) = U (p + 1)) (h5 : n = 5 → H (j + 1) = H j ∧ U (j + 1) = U j ∧ ∀ p r, tT s j = p :: r → (s p = 3 → H j = H (p + 1) ∧ U j = U (p + 1)) ∧ (s p = 4 → H j = H p ∧ U j = U p)) (h6 : n = 6 → H (j + 1) = H j ∧ U (j + 1) = U j) (h7 : n = 7 → H (j + 1) = H j ∧ U (j + 1) = U j ∧ ∀ p r, tT s j = p :: r → H j = H (p + 1) ∧ U j = U (p + 1)) : tL s v cn cl ch nd hi H U j := by
  subst hn
  exact ⟨h0, h1, h2, h3, h4, h5, h6, h7⟩
/-- an ITEM that opens nothing and closes nothing -/
theorem LI_flat {b : Nat} {h h' : sw_H} {f : Int} {s v : Nat → Int} {i : Nat} {H U : Nat → Int} (L : LI h f s v i H U) (K : mK (WLk b) h h') (hs : s i = 0 ∨ s i = 1 ∨ s i = 2) (n1 : h 224 56 ≤ h' 224 56 ∧ h' 224 56 ≤ 6 ∧ h 224 57 ≤ h' 224 57 ∧ h' 224 57 ≤ 12) (u : 0 ≤ h' 224 54 ∧ h' 224 54 ≤ 6) (r : -(h' 224 56) ≤ h' 224 53 ∧ h' 224 53 ≤ h' 224 57) (o : h' 224 55 = h 224 55) (ea : ∀ a k, 252 ≤ a → a ≤ 257 → h' a k = h a k)
    (tl : tL s v (kN h) (kL h) (kH h) (h' 224 56) (h' 224 57) (nx H i (h' 224 53)) (nx U i (h' 224 54)) i) : LI h' f s v (i + 1) (nx H i (h' 224 53)) (nx U i (h' 224 54)) := by
  have hT : tT s (i + 1) = tT s i := tT_flat (by omega)
  have L' := L
  obtain ⟨l1, l2, l3, l4, l5, l6, l7, l8, l9, l10, l11, l12, l13⟩ := L
  refine LI_next L' (WLk_k K) n1.1 n1.2.1 n1.2.2.1 n1.2.2.2 u r (by rw [hT]; omega) (by omega) (fun pre p r e => ?_) tl
  rw [hT] at e
  exact LE_ext (tT_mem i pre p r e).1 (fun a h1 h2 => ea a _ h1 h2) (l13 pre p r e)
theorem LI_open {b : Nat} {h h' : sw_H} {f : Int} {s v : Nat → Int} {i : Nat} {H U : Nat → Int} (L : LI h f s v i H U) (K : mK (WLk b) h h') (hs : s i = 3 ∨ s i = 6) (hS : tS s i) (n1 : h 224 56 ≤ h' 224 56 ∧ h' 224 56 ≤ 6 ∧ h 224 57 ≤ h' 224 57 ∧ h' 224 57 ≤ 12) (x : h' 224 54 = h 224 54 ∧ (s i = 3 → h' 224 53 = h 224 53 - 1 ∧ -(h' 224 53) ≤ h' 224 56) ∧ (s i = 6 → h' 224 53 = h 224 53)) (o : h' 224 55 = h 224 55 + 1)
    (a2 : ∀ k : Nat, h' 252 k = if (k : Int) = h 224 55 + 1 then s i else h 252 k) (a3 : ∀ k : Nat, h' 253 k = if (k : Int) = h 224 55 + 1 then f + i else h 253 k) (a4 : ∀ k : Nat, h' 254 k = if (k : Int) = h 224 55 + 1 then h' 224 53 else h 254 k) (a5 : ∀ k : Nat, h' 255 k = if (k : Int) = h 224 55 + 1 then h' 224 54 else h 255 k) (a6 : ∀ k : Nat, h' 256 k = h 256 k) (a7 : ∀ k : Nat, h' 257 k = h 257 k) : LI h' f s v (i + 1) (nx H i (h' 224 53)) (nx U i (h' 224 54)) := by
  have hT : tT s (i + 1) = i :: tT s i := tT_open hs
  have hl := hS.2.2.2 hs
  have L' := L
  obtain ⟨l1, l2, l3, l4, l5, l6, l7, l8, l9, l10, l11, l12, l13⟩ := L
  have li := l11 i (Nat.le_refl i)
  refine LI_next L' (WLk_k K) n1.1 n1.2.1 n1.2.2.1 n1.2.2.2 (by omega) (by omega) (by rw [hT, List.length_cons]; omega) (by omega) (fun pre p r e => ?_) ?_
  · rw [hT] at e
    match pre, e with
    | [], e =>
      simp only [List.nil_append, List.cons.injEq] at e
      obtain ⟨rfl, rfl⟩ := e
      refine ⟨by rw [a3, if_pos (by omega)], by rw [a2, if_pos (by omega)], by rw [a4, if_pos (by omega), nx_new], by rw [a5, if_pos (by omega), nx_new], fun q => by omega⟩
    | y :: pre, e =>
      simp only [List.cons_append, List.cons.injEq] at e
      have hm := (tT_mem i pre p r e.2).1
      have hlen : r.length + 1 ≤ (tT s i).length := by rw [e.2]; simp
      refine LE_ext hm (fun a h1 h2 => ?_) (l13 pre p r e.2)
      have : a = 252 ∨ a = 253 ∨ a = 254 ∨ a = 255 ∨ a = 256 ∨ a = 257 := by omega
      rcases this with rfl | rfl | rfl | rfl | rfl | rfl
      · rw [a2, if_neg (by omega)]
      · rw [a3, if_neg (by omega)]
      · rw [a4, if_neg (by omega)]
      · rw [a5, if_neg (by omega)]
      · rw [a6]
      · rw [a7]
  · refine tL_of (s i) rfl ?_ ?_ ?_ ?_ ?_ ?_ ?_ ?_ <;> (intro q; first | omega | skip)
    · rw [nx_new, nx_new, nx_le (Nat.le_refl i), nx_le (Nat.le_refl i)]; omega
    · rw [nx_new, nx_new, nx_le (Nat.le_refl i), nx_le (Nat.le_refl i)]; omega
theorem LI_else {b : Nat} {h h' : sw_H} {f : Int} {s v : Nat → Int} {i : Nat} {H U : Nat → Int} (L : LI h f s v i H U) (K : mK (WLk b) h h') (hs : s i = 4) {p0 : Nat} {r0 : List Nat} (e0 : tT s i = p0 :: r0) (n1 : h 224 56 ≤ h' 224 56 ∧ h' 224 56 ≤ 6 ∧ h 224 57 ≤ h' 224 57 ∧ h' 224 57 ≤ 12) (x : h' 224 53 = h 254 (h 224 55).toNat ∧ h' 224 54 = h 255 (h 224 55).toNat) (o : h' 224 55 = h 224 55)
    (a2 : ∀ k : Nat, h' 252 k = if (k : Int) = h 224 55 then 4 else h 252 k) (a3 : ∀ k : Nat, h' 253 k = if (k : Int) = h 224 55 then f + i else h 253 k) (a4 : ∀ k : Nat, h' 254 k = h 254 k) (a5 : ∀ k : Nat, h' 255 k = h 255 k) (a6 : ∀ k : Nat, h' 256 k = if (k : Int) = h 224 55 then h 224 53 else h 256 k) (a7 : ∀ k : Nat, h' 257 k = if (k : Int) = h 224 55 then h 224 54 else h 257 k) : LI h' f s v (i + 1) (nx H i (h' 224 53)) (nx U i (h' 224 54)) := by
  have hT : tT s (i + 1) = i :: r0 := by rw [tT_else hs, e0]; rfl
  have L' := L
  obtain ⟨l1, l2, l3, l4, l5, l6, l7, l8, l9, l10, l11, l12, l13⟩ := L
  have hp := (tT_head e0).1
  have hE := l13 [] p0 r0 e0
  have hlen : (tT s i).length = r0.length + 1 := by rw [e0]; simp
  have hidx : (h 224 55).toNat = r0.length + 1 := by omega
  obtain ⟨-, -, E3, E4, -⟩ := hE
  rw [hidx] at x
  have lp := l11 (p0 + 1) (by omega)
  refine LI_next L' (WLk_k K) n1.1 n1.2.1 n1.2.2.1 n1.2.2.2 (by omega) (by omega) (by rw [hT, List.length_cons]; omega) (by omega) (fun pre p r e => ?_) ?_
  · rw [hT] at e
    match pre, e with
    | [], e =>
      simp only [List.nil_append, List.cons.injEq] at e
      obtain ⟨rfl, rfl⟩ := e
      refine ⟨by rw [a3, if_pos (by omega)], by rw [a2, if_pos (by omega), hs], by rw [a4, nx_new]; omega, by rw [a5, nx_new]; omega, fun q => ⟨by rw [a6, if_pos (by omega), nx_le (Nat.le_refl _)]; exact l3, by rw [a7, if_pos (by omega), nx_le (Nat.le_refl _)]; exact l4⟩⟩
    | y :: pre, e =>
      simp only [List.cons_append, List.cons.injEq] at e
      have e' : tT s i = (p0 :: pre) ++ p :: r := by rw [e0, e.2]; rfl
      have hm := (tT_mem i _ p r e').1
      have hlen2 : r.length + 1 ≤ r0.length := by rw [e.2]; simp
      refine LE_ext hm (fun a h1 h2 => ?_) (l13 _ p r e')
      have : a = 252 ∨ a = 253 ∨ a = 254 ∨ a = 255 ∨ a = 256 ∨ a = 257 := by omega
      rcases this with rfl | rfl | rfl | rfl | rfl | rfl
      · rw [a2, if_neg (by omega)]
      · rw [a3, if_neg (by omega)]
      · rw [a4]
      · rw [a5]
      · rw [a6, if_neg (by omega)]
      · rw [a7, if_neg (by omega)]
  · refine tL_of (s i) rfl ?_ ?_ ?_ ?_ ?_ ?_ ?_ ?_ <;> (intro q; first | omega | skip)
    intro p r e
    rw [e0] at e
    simp only [List.cons.injEq] at e
    obtain ⟨rfl, rfl⟩ := e
    rw [nx_new, nx_new, nx_le (by omega), nx_le (by omega)]
    omega
theorem LI_shut {b : Nat} {h h' : sw_H} {f : Int} {s v : Nat → Int} {i : Nat} {H U : Nat → Int} (L : LI h f s v i H U) (K : mK (WLk b) h h') (hs : s i = 5 ∨ s i = 7) (hS : tS s i) {p0 : Nat} {r0 : List Nat} (e0 : tT s i = p0 :: r0) (n1 : h 224 56 ≤ h' 224 56 ∧ h' 224 56 ≤ 6 ∧ h 224 57 ≤ h' 224 57 ∧ h' 224 57 ≤ 12) (x : h' 224 53 = h 224 53 ∧ h' 224 54 = h 224 54) (o : h' 224 55 = h 224 55 - 1)
    (y : (h 252 (h 224 55).toNat = 4 → h 224 53 = h 256 (h 224 55).toNat ∧ h 224 54 = h 257 (h 224 55).toNat) ∧ (h 252 (h 224 55).toNat ≠ 4 → h 224 53 = h 254 (h 224 55).toNat ∧ h 224 54 = h 255 (h 224 55).toNat)) (ea : ∀ a k, 252 ≤ a → a ≤ 257 → h' a k = h a k) : LI h' f s v (i + 1) (nx H i (h' 224 53)) (nx U i (h' 224 54)) := by
  have hT : tT s (i + 1) = r0 := by rw [tT_shut hs, e0]; rfl
  have L' := L
  obtain ⟨l1, l2, l3, l4, l5, l6, l7, l8, l9, l10, l11, l12, l13⟩ := L
  have hp := (tT_head e0).1
  have hE := l13 [] p0 r0 e0
  have hlen : (tT s i).length = r0.length + 1 := by rw [e0]; simp
  have hidx : (h 224 55).toNat = r0.length + 1 := by omega
  have li := l11 i (Nat.le_refl i)
  obtain ⟨-, E2, E3, E4, E5⟩ := hE
  rw [hidx] at y
  have c3 : s p0 ≠ 4 → H i = H (p0 + 1) ∧ U i = U (p0 + 1) := fun q => by have := y.2 (by omega); omega
  have c4 : s p0 = 4 → H i = H p0 ∧ U i = U p0 := fun q => by have := y.1 (by omega); have := E5 q; omega
  refine LI_next L' (WLk_k K) n1.1 n1.2.1 n1.2.2.1 n1.2.2.2 (by omega) (by omega) (by rw [hT]; omega) (by omega) (fun pre p r e => ?_) ?_
  · rw [hT] at e
    have e' : tT s i = (p0 :: pre) ++ p :: r := by rw [e0, e]; rfl
    exact LE_ext (tT_mem i _ p r e').1 (fun a h1 h2 => ea a _ h1 h2) (l13 _ p r e')
  · refine tL_of (s i) rfl ?_ ?_ ?_ ?_ ?_ ?_ ?_ ?_ <;> (intro q; first | omega | skip)
    · rw [nx_new, nx_new, nx_le (Nat.le_refl i), nx_le (Nat.le_refl i)]
      refine ⟨by omega, by omega, fun p r e => ?_⟩
      rw [e0] at e
      simp only [List.cons.injEq] at e
      obtain ⟨rfl, rfl⟩ := e
      rw [nx_le (by omega), nx_le (by omega), nx_le (by omega), nx_le (by omega)]
      exact ⟨fun q3 => c3 (by omega), c4⟩
    · rw [nx_new, nx_new, nx_le (Nat.le_refl i), nx_le (Nat.le_refl i)]
      refine ⟨by omega, by omega, fun p r e => ?_⟩
      rw [e0] at e
      simp only [List.cons.injEq] at e
      obtain ⟨rfl, rfl⟩ := e
      obtain ⟨p1, r1, e1, h6⟩ := hS.2.2.1 q
      rw [e0] at e1
      simp only [List.cons.injEq] at e1
      rw [← e1.1] at h6
      rw [nx_le (by omega), nx_le (by omega)]
      exact c3 (by omega)

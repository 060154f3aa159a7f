-- ===== the rule's reading: what lies on the pile of signs, what the row of code comes to =====
def eB (f : Nat → Int) : Nat → Int
  | 0 => 0
  | n + 1 => eB f n + if f n = 1 ∨ f n = 2 ∨ f n = 4 ∨ f n = 5 ∨ f n = 6 then 1 else 0
def eM (f : Nat → Int) : Nat → Int
  | 0 => 0
  | n + 1 => eM f n + if f n = 3 then 1 else 0
def eK (f : Nat → Int) : Nat → Int
  | 0 => 0
  | n + 1 => eK f n + if f n = 7 then 1 else 0
theorem eB_congr {f g : Nat → Int} : ∀ (n : Nat), (∀ k, k < n → f k = g k) → eB f n = eB g n
  | 0, _ => rfl
  | n + 1, h => by
    have ih := eB_congr n (fun k hk => h k (by omega))
    simp only [eB]
    rw [ih, h n (by omega)]
theorem eM_congr {f g : Nat → Int} : ∀ (n : Nat), (∀ k, k < n → f k = g k) → eM f n = eM g n
  | 0, _ => rfl
  | n + 1, h => by
    have ih := eM_congr n (fun k hk => h k (by omega))
    simp only [eM]
    rw [ih, h n (by omega)]
theorem eK_congr {f g : Nat → Int} : ∀ (n : Nat), (∀ k, k < n → f k = g k) → eK f n = eK g n
  | 0, _ => rfl
  | n + 1, h => by
    have ih := eK_congr n (fun k hk => h k (by omega))
    simp only [eK]
    rw [ih, h n (by omega)]
theorem e_nonneg (f : Nat → Int) : ∀ (n : Nat), 0 ≤ eB f n ∧ 0 ≤ eM f n ∧ 0 ≤ eK f n
  | 0 => ⟨Int.le_refl 0, Int.le_refl 0, Int.le_refl 0⟩
  | n + 1 => by
    obtain ⟨a, b, c⟩ := e_nonneg f n
    simp only [eB, eM, eK]
    refine ⟨?_, ?_, ?_⟩ <;> split <;> omega
theorem e_count {f : Nat → Int} (h0 : f 0 = 8) : ∀ (n : Nat), (∀ k, 1 ≤ k → k < n + 1 → 1 ≤ f k ∧ f k ≤ 7) → eB f (n + 1) + eM f (n + 1) + eK f (n + 1) = n
  | 0, _ => by
    simp only [eB, eM, eK]
    rw [h0]
    decide
  | n + 1, h => by
    have ih := e_count h0 n (fun k h1 h2 => h k h1 (by omega))
    have hn := h (n + 1) (by omega) (by omega)
    have a1 : eB f (n + 1 + 1) = eB f (n + 1) + if f (n + 1) = 1 ∨ f (n + 1) = 2 ∨ f (n + 1) = 4 ∨ f (n + 1) = 5 ∨ f (n + 1) = 6 then 1 else 0 := rfl
    have a2 : eM f (n + 1 + 1) = eM f (n + 1) + if f (n + 1) = 3 then 1 else 0 := rfl
    have a3 : eK f (n + 1 + 1) = eK f (n + 1) + if f (n + 1) = 7 then 1 else 0 := rfl
    rw [a1, a2, a3]
    by_cases q3 : f (n + 1) = 3
    · rw [if_neg (by omega), if_pos q3, if_neg (by omega)]; omega
    · by_cases q7 : f (n + 1) = 7
      · rw [if_neg (by omega), if_neg q3, if_pos q7]; omega
      · rw [if_pos (by omega), if_neg q3, if_neg q7]; omega
/-- a two-sided sign -/
def opS (x : Int) : Prop := x ≠ 126 ∧ ¬ (97 ≤ x ∧ x ≤ 122)
def dw (x : Int) : Int := if x = 126 then 0 else if 97 ≤ x ∧ x ≤ 122 then 1 else -1
/-- how much lies on the pile behind n of the row's codes -/
def dpt (c : Nat → Int) (f : Nat) : Nat → Int
  | 0 => 0
  | n + 1 => dpt c f n + dw (c (f + n))
def dOK (c : Nat → Int) (f n : Nat) : Prop := ∀ j, j < n → (c (f + j) = 126 → 1 ≤ dpt c f j) ∧ (opS (c (f + j)) → 2 ≤ dpt c f j) ∧ 0 ≤ dpt c f j ∧ dpt c f j ≤ 32
theorem dpt_congr {c g : Nat → Int} {f : Nat} : ∀ (n : Nat), (∀ j, j < n → c (f + j) = g (f + j)) → dpt c f n = dpt g f n
  | 0, _ => rfl
  | n + 1, h => by
    have ih := dpt_congr n (fun k hk => h k (by omega))
    simp only [dpt]
    rw [ih, h n (by omega)]
theorem dOK_congr {c g : Nat → Int} {f n : Nat} (h : ∀ j, j < n → c (f + j) = g (f + j)) (k : dOK c f n) : dOK g f n := by
  intro j hj
  have e := dpt_congr (c := c) (g := g) (f := f) j (fun x hx => h x (by omega))
  rw [← h j hj, ← e]
  exact k j hj
/-- one more code at the row's end -/
theorem dOK_next {c c' : Nat → Int} {f n : Nat} {x : Int} (h : ∀ k : Nat, c' k = if k = f + n then x else c k) (k : dOK c f n) (hx : (x = 126 → 1 ≤ dpt c f n) ∧ (opS x → 2 ≤ dpt c f n) ∧ 0 ≤ dpt c f n ∧ dpt c f n ≤ 32) : dOK c' f (n + 1) ∧ dpt c' f (n + 1) = dpt c f n + dw x := by
  have hc : ∀ j, j < n → c (f + j) = c' (f + j) := fun j hj => by rw [h, if_neg (by omega)]
  have e0 := dpt_congr n hc
  have en : c' (f + n) = x := by rw [h, if_pos rfl]
  refine ⟨fun j hj => ?_, ?_⟩
  · by_cases q : j = n
    · subst q
      rw [en, ← e0]
      exact hx
    · exact dOK_congr hc k j (by omega)
  · simp only [dpt]
    rw [en, e0]
/-- the state of a rule's reading -/
def eP (p wi un u cd : Int) (fw fs fc : Nat → Int) (fr r wt : Int) : Prop :=
  1 ≤ p ∧ fw 0 = 8 ∧ (∀ k : Nat, 1 ≤ k → (k : Int) < p → 1 ≤ fw k ∧ fw k ≤ 7) ∧ (∀ k : Nat, (k : Int) < p → (fw k = 3 → fs k = 126) ∧ (fw k ≠ 3 → fw k ≤ 6 → opS (fs k))) ∧ wi = eM fw p.toNat + eK fw p.toNat ∧ wi ≤ 7 ∧ eB fw p.toNat + 1 - wt ≤ u ∧ u ≤ 30 ∧ 560 * r ≤ fr ∧ fr ≤ cd ∧ cd - 560 * r + eB fw p.toNat + eM fw p.toNat ≤ 9 * un + (if wt = 1 then wi else -1) ∧ dpt fc fr.toNat (cd - fr).toNat = eB fw p.toNat + 1 - wt ∧ dOK fc fr.toNat (cd - fr).toNat
/-- what is sure however the reading ends -/
def eQ (un cd : Int) (fc : Nat → Int) (fr r : Int) : Prop := 560 * r ≤ fr ∧ fr ≤ cd ∧ cd - 560 * r ≤ 9 * un + 7 ∧ dOK fc fr.toNat (cd - fr).toNat
theorem eP_eQ {p wi un u cd : Int} {fw fs fc : Nat → Int} {fr r wt : Int} (k : eP p wi un u cd fw fs fc fr r wt) : eQ un cd fc fr r := by
  obtain ⟨k1, k2, k3, k4, k5, k6, k7, k8, k9, k10, k11, k12, k13⟩ := k
  have n := e_nonneg fw p.toNat
  exact ⟨k9, k10, by split at k11 <;> omega, k13⟩
theorem eP_rng {p wi un u cd : Int} {fw fs fc : Nat → Int} {fr r wt : Int} (k : eP p wi un u cd fw fs fc fr r wt) (hw : wt = 0 ∨ wt = 1) : 1 ≤ p ∧ p ≤ 39 ∧ cd - 560 * r ≤ 9 * un + (if wt = 1 then wi else -1) ∧ 0 ≤ wi ∧ wi ≤ 7 ∧ u ≤ 30 ∧ 0 ≤ u ∧ 560 * r ≤ cd ∧ (∀ k : Nat, (k : Int) < p → 1 ≤ fw k ∧ fw k ≤ 8) ∧ fw 0 = 8 := by
  obtain ⟨k1, k2, k3, k4, k5, k6, k7, k8, k9, k10, k11, k12, k13⟩ := k
  have n := e_nonneg fw p.toNat
  have c := e_count k2 (p.toNat - 1) (fun k h1 h2 => k3 k h1 (by omega))
  rw [show p.toNat - 1 + 1 = p.toNat by omega] at c
  refine ⟨k1, by omega, by omega, by omega, k6, k8, by omega, by omega, fun k hk => ?_, k2⟩
  by_cases q : k = 0
  · subst q; rw [k2]; decide
  · have := k3 k (by omega) hk; omega
theorem e_up {f f' : Nat → Int} {p x : Int} (hp : 0 ≤ p) (h : ∀ k : Nat, f' k = if (k : Int) = p then x else f k) : eB f' (p + 1).toNat = eB f p.toNat + (if x = 1 ∨ x = 2 ∨ x = 4 ∨ x = 5 ∨ x = 6 then 1 else 0) ∧ eM f' (p + 1).toNat = eM f p.toNat + (if x = 3 then 1 else 0) ∧ eK f' (p + 1).toNat = eK f p.toNat + (if x = 7 then 1 else 0) := by
  have e : (p + 1).toNat = p.toNat + 1 := by omega
  have hx : f' p.toNat = x := by rw [h, if_pos (by omega)]
  have hc : ∀ k, k < p.toNat → f' k = f k := fun k hk => by rw [h, if_neg (by omega)]
  rw [e]
  simp only [eB, eM, eK]
  rw [hx, eB_congr _ hc, eM_congr _ hc, eK_congr _ hc]
  exact ⟨rfl, rfl, rfl⟩
theorem e_down (f : Nat → Int) {p : Int} (hp : 1 ≤ p) : eB f p.toNat = eB f (p - 1).toNat + (if f (p - 1).toNat = 1 ∨ f (p - 1).toNat = 2 ∨ f (p - 1).toNat = 4 ∨ f (p - 1).toNat = 5 ∨ f (p - 1).toNat = 6 then 1 else 0) ∧ eM f p.toNat = eM f (p - 1).toNat + (if f (p - 1).toNat = 3 then 1 else 0) ∧ eK f p.toNat = eK f (p - 1).toNat + (if f (p - 1).toNat = 7 then 1 else 0) := by
  have e : p.toNat = (p - 1).toNat + 1 := by omega
  rw [e]
  exact ⟨rfl, rfl, rfl⟩
/-- NOT, or a bracket -/
theorem eP_in {p wi un u cd : Int} {fw fs fc fw' fs' : Nat → Int} {fr r x un' u' : Int} (k : eP p wi un u cd fw fs fc fr r 1) (hw : wi < 7) (hx : x = 3 ∨ x = 7) (hun : un ≤ un') (hu : u ≤ u' ∧ u' ≤ 30) (ew : ∀ k : Nat, fw' k = if (k : Int) = p then x else fw k) (es : ∀ k : Nat, fs' k = if (k : Int) = p then 126 else fs k) : eP (p + 1) (wi + 1) un' u' cd fw' fs' fc fr r 1 := by
  obtain ⟨k1, k2, k3, k4, k5, k6, k7, k8, k9, k10, k11, k12, k13⟩ := k
  obtain ⟨c1, c2, c3⟩ := e_up (by omega) ew
  rw [if_neg (by omega)] at c1
  rw [if_pos rfl] at k11
  unfold eP
  rw [c1, c2, c3, if_pos rfl]
  refine ⟨by omega, by rw [ew, if_neg (by omega)]; exact k2, fun k h1 h2 => ?_, fun k h1 => ?_, ?_, by omega, by omega, by omega, k9, k10, ?_, by omega, k13⟩
  · rw [ew]
    by_cases q : (k : Int) = p
    · rw [if_pos q]; omega
    · rw [if_neg q]; exact k3 k h1 (by omega)
  · rw [ew, es]
    by_cases q : (k : Int) = p
    · rw [if_pos q, if_pos q]; exact ⟨fun _ => rfl, fun a b => by omega⟩
    · rw [if_neg q, if_neg q]; exact k4 k (by omega)
  · rcases hx with rfl | rfl
    · rw [if_pos rfl, if_neg (by decide)]; omega
    · rw [if_pos rfl, if_neg (by decide)]; omega
  · have : (if x = 3 then (1 : Int) else 0) ≤ 1 := by split <;> omega
    omega
/-- a number, FORM or KIND -/
theorem eP_let {p wi un u cd : Int} {fw fs fc fc' : Nat → Int} {fr r x : Int} (hr : 0 ≤ r) (k : eP p wi un u cd fw fs fc fr r 1) (hx : 97 ≤ x ∧ x ≤ 122) (hu : u < 30) (ec : ∀ k : Nat, fc' k = if (k : Int) = cd then x else fc k) : eP p wi (un + 1) (u + 1) (cd + 1) fw fs fc' fr r 0 := by
  obtain ⟨k1, k2, k3, k4, k5, k6, k7, k8, k9, k10, k11, k12, k13⟩ := k
  have n := e_nonneg fw p.toNat
  rw [if_pos rfl] at k11
  have e1 : (cd + 1 - fr).toNat = (cd - fr).toNat + 1 := by omega
  obtain ⟨d1, d2⟩ := dOK_next (c := fc) (c' := fc') (f := fr.toNat) (n := (cd - fr).toNat) (x := x) (fun k => by
    rw [ec]
    by_cases q : (k : Int) = cd
    · rw [if_pos q, if_pos (by omega)]
    · rw [if_neg q, if_neg (by omega)]) k13 ⟨fun q => by omega, fun q => absurd hx q.2, by omega, by omega⟩
  have hd : dw x = 1 := by unfold dw; rw [if_neg (by omega), if_pos hx]
  unfold eP
  rw [e1, d2, hd, if_neg (by decide)]
  exact ⟨k1, k2, k3, k4, k5, k6, by omega, by omega, k9, by omega, by omega, by omega, d1⟩
/-- a sign comes off the pile -/
theorem eP_pop {p wi un u cd : Int} {fw fs fc fc' : Nat → Int} {fr r : Int} (hr : 0 ≤ r) (k : eP p wi un u cd fw fs fc fr r 0) (ht : fw (p - 1).toNat ≤ 6) (ec : ∀ k : Nat, fc' k = if (k : Int) = cd then fs (p - 1).toNat else fc k) : 2 ≤ p ∧ eP (p - 1) (wi - if fw (p - 1).toNat = 3 then 1 else 0) un u (cd + 1) fw fs fc' fr r 0 := by
  obtain ⟨k1, k2, k3, k4, k5, k6, k7, k8, k9, k10, k11, k12, k13⟩ := k
  have p2 : 2 ≤ p := by
    by_cases q : p = 1
    · subst q
      rw [show ((1 : Int) - 1).toNat = 0 by decide, k2] at ht
      omega
    · omega
  have n := e_nonneg fw (p - 1).toNat
  obtain ⟨c1, c2, c3⟩ := e_down fw (p := p) (by omega)
  have hf := k3 (p - 1).toNat (by omega) (by omega)
  have hs := k4 (p - 1).toNat (by omega)
  rw [if_neg (show ¬ (0 : Int) = 1 by decide)] at k11
  rw [if_neg (show ¬ fw (p - 1).toNat = 7 by omega)] at c3
  have e1 : (cd + 1 - fr).toNat = (cd - fr).toNat + 1 := by omega
  have ec2 : ∀ k : Nat, fc' k = if k = fr.toNat + (cd - fr).toNat then fs (p - 1).toNat else fc k := fun k => by
    rw [ec]
    by_cases q : (k : Int) = cd
    · rw [if_pos q, if_pos (by omega)]
    · rw [if_neg q, if_neg (by omega)]
  refine ⟨p2, ?_⟩
  by_cases q3 : fw (p - 1).toNat = 3
  · rw [if_neg (by omega)] at c1
    rw [if_pos q3] at c2
    have hs3 := hs.1 q3
    obtain ⟨d1, d2⟩ := dOK_next ec2 k13 ⟨fun _ => by omega, fun q => absurd hs3 q.1, by omega, by omega⟩
    have hd : dw (fs (p - 1).toNat) = 0 := by unfold dw; rw [if_pos hs3]
    unfold eP
    rw [e1, d2, hd, if_pos q3, if_neg (by decide)]
    exact ⟨by omega, k2, fun k h1 h2 => k3 k h1 (by omega), fun k h1 => k4 k (by omega), by omega, by omega, by omega, by omega, k9, by omega, by omega, by omega, d1⟩
  · rw [if_pos (by omega)] at c1
    rw [if_neg q3] at c2
    have hs3 := hs.2 q3 ht
    obtain ⟨d1, d2⟩ := dOK_next ec2 k13 ⟨fun q => absurd q hs3.1, fun q => by omega, by omega, by omega⟩
    have hd : dw (fs (p - 1).toNat) = -1 := by unfold dw; rw [if_neg hs3.1, if_neg hs3.2]
    unfold eP
    rw [e1, d2, hd, if_neg q3, if_neg (by decide)]
    exact ⟨by omega, k2, fun k h1 h2 => k3 k h1 (by omega), fun k h1 => k4 k (by omega), by omega, by omega, by omega, by omega, k9, by omega, by omega, by omega, d1⟩
/-- a two-sided sign is laid on the pile -/
theorem eP_two {p wi un u cd : Int} {fw fs fc fw' fs' : Nat → Int} {fr r x y : Int} (k : eP p wi un u cd fw fs fc fr r 0) (hx : x = 1 ∨ x = 2 ∨ x = 4 ∨ x = 5 ∨ x = 6) (hy : opS y) (ew : ∀ k : Nat, fw' k = if (k : Int) = p then x else fw k) (es : ∀ k : Nat, fs' k = if (k : Int) = p then y else fs k) : eP (p + 1) wi un u cd fw' fs' fc fr r 1 := by
  obtain ⟨k1, k2, k3, k4, k5, k6, k7, k8, k9, k10, k11, k12, k13⟩ := k
  have n := e_nonneg fw p.toNat
  obtain ⟨c1, c2, c3⟩ := e_up (by omega) ew
  rw [if_pos hx] at c1
  rw [if_neg (by omega)] at c2 c3
  rw [if_neg (by decide)] at k11
  unfold eP
  rw [c1, c2, c3, if_pos rfl]
  refine ⟨by omega, by rw [ew, if_neg (by omega)]; exact k2, fun k h1 h2 => ?_, fun k h1 => ?_, by omega, k6, by omega, by omega, k9, k10, by omega, by omega, k13⟩
  · rw [ew]
    by_cases q : (k : Int) = p
    · rw [if_pos q]; omega
    · rw [if_neg q]; exact k3 k h1 (by omega)
  · rw [ew, es]
    by_cases q : (k : Int) = p
    · rw [if_pos q, if_pos q]; exact ⟨fun q3 => by omega, fun a b => hy⟩
    · rw [if_neg q, if_neg q]; exact k4 k (by omega)
/-- a bracket is shut -/
theorem eP_shut {p wi un u cd : Int} {fw fs fc : Nat → Int} {fr r : Int} (k : eP p wi un u cd fw fs fc fr r 0) (ht : fw (p - 1).toNat = 7) : 2 ≤ p ∧ eP (p - 1) (wi - 1) un u cd fw fs fc fr r 0 := by
  obtain ⟨k1, k2, k3, k4, k5, k6, k7, k8, k9, k10, k11, k12, k13⟩ := k
  have p2 : 2 ≤ p := by
    by_cases q : p = 1
    · subst q
      rw [show ((1 : Int) - 1).toNat = 0 by decide, k2] at ht
      omega
    · omega
  have n := e_nonneg fw (p - 1).toNat
  obtain ⟨c1, c2, c3⟩ := e_down fw (p := p) (by omega)
  rw [if_neg (by omega)] at c1 c2
  rw [if_pos ht] at c3
  rw [if_neg (show ¬ (0 : Int) = 1 by decide)] at k11
  unfold eP
  rw [if_neg (show ¬ (0 : Int) = 1 by decide)]
  exact ⟨p2, by omega, k2, fun k h1 h2 => k3 k h1 (by omega), fun k h1 => k4 k (by omega), by omega, by omega, by omega, by omega, k9, k10, by omega, by omega, k13⟩
/-- the rule's end -/
theorem eP_end {p wi un u cd : Int} {fw fs fc : Nat → Int} {fr r : Int} (k : eP p wi un u cd fw fs fc fr r 0) (ht : 8 ≤ fw (p - 1).toNat) : p = 1 ∧ cd - 560 * r ≤ 9 * un := by
  obtain ⟨k1, k2, k3, k4, k5, k6, k7, k8, k9, k10, k11, k12, k13⟩ := k
  have n := e_nonneg fw p.toNat
  rw [if_neg (show ¬ (0 : Int) = 1 by decide)] at k11
  refine ⟨?_, by omega⟩
  by_cases q : p = 1
  · exact q
  · have := k3 (p - 1).toNat (by omega) (by omega)
    omega
/-- the rule's beginning -/
theorem eP_new {un cd : Int} {fw fs fc : Nat → Int} {r : Int} (hw : fw 0 = 8) (hr : 560 * r ≤ cd) (hc : cd - 560 * r ≤ 9 * un) : eP 1 0 un 0 cd fw fs fc cd r 1 := by
  have b1 : eB fw 1 = 0 := by simp only [eB]; rw [hw]; decide
  have b2 : eM fw 1 = 0 := by simp only [eM]; rw [hw]; decide
  have b3 : eK fw 1 = 0 := by simp only [eK]; rw [hw]; decide
  unfold eP
  rw [show (1 : Int).toNat = 1 from rfl, b1, b2, b3, if_pos rfl, show (cd - cd).toNat = 0 by omega]
  refine ⟨by decide, hw, fun k h1 h2 => by omega, fun k h1 => ?_, by decide, by decide, by decide, by decide, hr, Int.le_refl _, by omega, rfl, fun j hj => absurd hj (Nat.not_lt_zero j)⟩
  have : k = 0 := by omega
  subst this
  rw [hw]
  exact ⟨fun q => absurd q (by decide), fun _ q => absurd q (by decide)⟩
def eI (h : sw_H) (r wt : Int) : Prop := eP (h 224 40) (h 224 39) (h 229 r.toNat) (h 224 41) (h 224 38) (h 249) (h 250) (h 247) (h 244 r.toNat) r wt
def eE (h : sw_H) (r : Int) : Prop := eQ (h 229 r.toNat) (h 224 38) (h 247) (h 244 r.toNat) r

set_option maxRecDepth 20000 in
set_option maxHeartbeats 4000000 in
theorem c2_X12_isSignHere {G : sw_G} (d : Nat) {h0 : sw_H} (hJ : mI h0) (y1 : Int)  : sw_E G NH SH (d + 1) mX12_isSignHere 0 [some (sw_r 224), some (sw_i y1)] [] h0 (sw_Qz (fun z h' => h0 = h' ∧ ((z = 1 → h0 224 8 = 5 ∧ sgn h0 (h0 224 6) = y1)))) := by
  have hI : mK (prW [] []) h0 h0 := mK.refl hJ
  have r6 : (0 : Int) ≤ h0 224 6 ∧ h0 224 6 ≤ 1700 := hI.1 224 6
  refine sx_aload_n dX12_isSignHere_0 rfl ?_
  refine sx_getI (k := 8) cl_12 fl_X12_302 dX12_isSignHere_1 s_224 (by decide) rfl (by decide) ?_
  have r1 : (0 : Int) ≤ h0 224 8 ∧ h0 224 8 ≤ 5 := hI.1 224 8
  refine sx_iconst dX12_isSignHere_4 ⟨by decide, by decide⟩ ?_
  refine sx_icmp_ne (tgt := 24) dX12_isSignHere_5 (by decide) (fun c2 => ?_) (fun c2 => ?_)
  ·
    refine sx_iconst dX12_isSignHere_24 ⟨by decide, by decide⟩ ?_
    refine sx_ireturn dX12_isSignHere_25 ?_
    exact ⟨_, rfl, by omega, ⟨rfl, fun q => by first | (exfalso; omega) | (refine ⟨by omega, ?_⟩; first | omega | (rw [← p_x2.2.2.2]; omega))⟩⟩
  ·
    refine sx_aload_n dX12_isSignHere_8 rfl ?_
    refine sx_aload_n dX12_isSignHere_9 rfl ?_
    refine sx_getI (k := 6) cl_12 fl_X12_295 dX12_isSignHere_10 s_224 (by decide) rfl (by decide) ?_
    have r3 : (0 : Int) ≤ h0 224 6 ∧ h0 224 6 ≤ 1700 := hI.1 224 6
    refine sx_callVi lk_X12_298 cl_12 s_224 (by decide) dX12_isSignHere_13 (vs := [_]) rfl rfl (Nat.le_of_ble_eq_true rfl) (Nat.le_of_ble_eq_true rfl) rfl (c_X12_sign _ hI.1 _ (by omega)) (fun x5 h4 ph4 => ?_)
    obtain ⟨rfl, p_x5⟩ := ph4
    refine sx_iload_n dX12_isSignHere_16 rfl ?_
    refine sx_icmp_ne (tgt := 24) dX12_isSignHere_17 (by decide) (fun c6 => ?_) (fun c6 => ?_)
    ·
      refine sx_iconst dX12_isSignHere_24 ⟨by decide, by decide⟩ ?_
      refine sx_ireturn dX12_isSignHere_25 ?_
      exact ⟨_, rfl, by omega, ⟨rfl, fun q => by first | (exfalso; omega) | (refine ⟨by omega, ?_⟩; first | omega | (rw [← p_x2.2.2.2]; omega))⟩⟩
    ·
      refine sx_iconst dX12_isSignHere_20 ⟨by decide, by decide⟩ ?_
      refine sx_goto (tgt := 25) dX12_isSignHere_21 (by decide) ?_
      refine sx_ireturn dX12_isSignHere_25 ?_
      exact ⟨_, rfl, by omega, ⟨rfl, fun q => by first | (exfalso; omega) | (refine ⟨by omega, ?_⟩; first | omega | (rw [← p_x2.2.2.2]; omega))⟩⟩
set_option maxRecDepth 20000 in
set_option maxHeartbeats 4000000 in
theorem c_X12_wordHere {G : sw_G} (d : Nat) {h0 : sw_H} (hJ : mI h0)  : sw_E G NH SH (d + 1) mX12_wordHere 0 [some (sw_r 224)] [] h0 (sw_Qi (fun z h' => h0 = h' ∧ ((z = 0 ∨ z = 102 ∨ z = 107) ∧ (z ≠ 0 → h0 224 8 = 3)))) := by
  have hI : mK (prW [] []) h0 h0 := mK.refl hJ
  refine sx_aload_n dX12_wordHere_0 rfl ?_
  refine sx_ldc2 kc_X12_248 ⟨by decide, by decide⟩ dX12_wordHere_1 ?_
  refine sx_callVz lk_X12_355 cl_12 s_224 (by decide) dX12_wordHere_4 (vs := [_]) rfl rfl (Nat.le_of_ble_eq_true rfl) (Nat.le_of_ble_eq_true rfl) rfl (c_X12_isWord _ hI.1 _) (fun x2 h1 zx2 ph1 => ?_)
  obtain ⟨rfl, p_x2⟩ := ph1
  refine sx_if_eq (tgt := 13) dX12_wordHere_7 (by decide) (fun c3 => ?_) (fun c3 => ?_)
  ·
    clear p_x2
    clear zx2
    refine sx_aload_n dX12_wordHere_13 rfl ?_
    refine sx_ldc2 kc_X12_250 ⟨by decide, by decide⟩ dX12_wordHere_14 ?_
    refine sx_callVz lk_X12_355 cl_12 s_224 (by decide) dX12_wordHere_17 (vs := [_]) rfl rfl (Nat.le_of_ble_eq_true rfl) (Nat.le_of_ble_eq_true rfl) rfl (c_X12_isWord _ hI.1 _) (fun x5 h4 zx5 ph4 => ?_)
    obtain ⟨rfl, p_x5⟩ := ph4
    refine sx_if_eq (tgt := 28) dX12_wordHere_20 (by decide) (fun c6 => ?_) (fun c6 => ?_)
    ·
      clear p_x5
      clear zx5
      refine sx_iconst dX12_wordHere_28 ⟨by decide, by decide⟩ ?_
      refine sx_ireturn dX12_wordHere_29 ?_
      exact ⟨_, rfl, ⟨rfl, by omega⟩⟩
    ·
      have vx5 : x5 = 1 := by rcases zx5 with q | q; (exact absurd q c6); exact q
      replace p_x5 := p_x5 vx5
      clear zx5
      refine sx_bipush dX12_wordHere_23 ⟨by decide, by decide, by decide⟩ ?_
      refine sx_goto (tgt := 29) dX12_wordHere_25 (by decide) ?_
      refine sx_ireturn dX12_wordHere_29 ?_
      exact ⟨_, rfl, ⟨rfl, by omega⟩⟩
  ·
    have vx2 : x2 = 1 := by rcases zx2 with q | q; (exact absurd q c3); exact q
    replace p_x2 := p_x2 vx2
    clear zx2
    refine sx_bipush dX12_wordHere_10 ⟨by decide, by decide, by decide⟩ ?_
    refine sx_ireturn dX12_wordHere_12 ?_
    exact ⟨_, rfl, ⟨rfl, by omega⟩⟩
set_option maxRecDepth 20000 in
set_option maxHeartbeats 4000000 in
theorem c_X12_rankHere {G : sw_G} (d : Nat) {h0 : sw_H} (hJ : mI h0)  : sw_E G NH SH (d + 2) mX12_rankHere 0 [some (sw_r 224)] [] h0 (sw_Qi (fun z h' => h0 = h' ∧ (0 ≤ z ∧ z ≤ 6 ∧ z ≠ 3 ∧ (z ≠ 0 → h0 224 8 ≠ 0) ∧ (4 ≤ z → opS (sgn h0 (h0 224 6)))))) := by
  have hI : mK (prW [] []) h0 h0 := mK.refl hJ
  refine sx_aload_n dX12_rankHere_0 rfl ?_
  refine sx_ldc2 kc_X12_254 ⟨by decide, by decide⟩ dX12_rankHere_1 ?_
  refine sx_callVz lk_X12_355 cl_12 s_224 (by decide) dX12_rankHere_4 (vs := [_]) rfl rfl (Nat.le_of_ble_eq_true rfl) (Nat.le_of_ble_eq_true rfl) rfl (c_X12_isWord _ hI.1 _) (fun x2 h1 zx2 ph1 => ?_)
  obtain ⟨rfl, p_x2⟩ := ph1
  refine sx_if_eq (tgt := 12) dX12_rankHere_7 (by decide) (fun c3 => ?_) (fun c3 => ?_)
  ·
    clear p_x2
    clear zx2
    refine sx_aload_n dX12_rankHere_12 rfl ?_
    refine sx_ldc2 kc_X12_252 ⟨by decide, by decide⟩ dX12_rankHere_13 ?_
    refine sx_callVz lk_X12_355 cl_12 s_224 (by decide) dX12_rankHere_16 (vs := [_]) rfl rfl (Nat.le_of_ble_eq_true rfl) (Nat.le_of_ble_eq_true rfl) rfl (c_X12_isWord _ hI.1 _) (fun x5 h4 zx5 ph4 => ?_)
    obtain ⟨rfl, p_x5⟩ := ph4
    refine sx_if_eq (tgt := 24) dX12_rankHere_19 (by decide) (fun c6 => ?_) (fun c6 => ?_)
    ·
      clear p_x5
      clear zx5
      refine sx_aload_n dX12_rankHere_24 rfl ?_
      refine sx_bipush dX12_rankHere_25 ⟨by decide, by decide, by decide⟩ ?_
      refine sx_callVz lk_X12_379 cl_12 s_224 (by decide) dX12_rankHere_27 (vs := [_]) rfl rfl (Nat.le_of_ble_eq_true rfl) (Nat.le_of_ble_eq_true rfl) rfl (c2_X12_isSignHere _ hI.1 _) (fun x8 h7 zx8 ph7 => ?_)
      obtain ⟨rfl, p_x8⟩ := ph7
      refine sx_if_ne (tgt := 51) dX12_rankHere_30 (by decide) (fun c9 => ?_) (fun c9 => ?_)
      ·
        have vx8 : x8 = 1 := by rcases zx8 with q | q; (exact absurd q c9); exact q
        replace p_x8 := p_x8 vx8
        clear zx8
        refine sx_iconst dX12_rankHere_51 ⟨by decide, by decide⟩ ?_
        refine sx_ireturn dX12_rankHere_52 ?_
        exact ⟨_, rfl, ⟨rfl, ⟨by decide, by decide, by decide, fun q => by first | omega | (exact absurd rfl q), fun q => by first | (exact absurd q (by decide)) | (unfold opS; omega)⟩⟩⟩
      ·
        clear p_x8
        clear zx8
        refine sx_aload_n dX12_rankHere_33 rfl ?_
        refine sx_bipush dX12_rankHere_34 ⟨by decide, by decide, by decide⟩ ?_
        refine sx_callVz lk_X12_379 cl_12 s_224 (by decide) dX12_rankHere_36 (vs := [_]) rfl rfl (Nat.le_of_ble_eq_true rfl) (Nat.le_of_ble_eq_true rfl) rfl (c2_X12_isSignHere _ hI.1 _) (fun x11 h10 zx11 ph10 => ?_)
        obtain ⟨rfl, p_x11⟩ := ph10
        refine sx_if_ne (tgt := 51) dX12_rankHere_39 (by decide) (fun c12 => ?_) (fun c12 => ?_)
        ·
          have vx11 : x11 = 1 := by rcases zx11 with q | q; (exact absurd q c12); exact q
          replace p_x11 := p_x11 vx11
          clear zx11
          refine sx_iconst dX12_rankHere_51 ⟨by decide, by decide⟩ ?_
          refine sx_ireturn dX12_rankHere_52 ?_
          exact ⟨_, rfl, ⟨rfl, ⟨by decide, by decide, by decide, fun q => by first | omega | (exact absurd rfl q), fun q => by first | (exact absurd q (by decide)) | (unfold opS; omega)⟩⟩⟩
        ·
          clear p_x11
          clear zx11
          refine sx_aload_n dX12_rankHere_42 rfl ?_
          refine sx_bipush dX12_rankHere_43 ⟨by decide, by decide, by decide⟩ ?_
          refine sx_callVz lk_X12_379 cl_12 s_224 (by decide) dX12_rankHere_45 (vs := [_]) rfl rfl (Nat.le_of_ble_eq_true rfl) (Nat.le_of_ble_eq_true rfl) rfl (c2_X12_isSignHere _ hI.1 _) (fun x14 h13 zx14 ph13 => ?_)
          obtain ⟨rfl, p_x14⟩ := ph13
          refine sx_if_eq (tgt := 53) dX12_rankHere_48 (by decide) (fun c15 => ?_) (fun c15 => ?_)
          ·
            clear p_x14
            clear zx14
            refine sx_aload_n dX12_rankHere_53 rfl ?_
            refine sx_bipush dX12_rankHere_54 ⟨by decide, by decide, by decide⟩ ?_
            refine sx_callVz lk_X12_379 cl_12 s_224 (by decide) dX12_rankHere_56 (vs := [_]) rfl rfl (Nat.le_of_ble_eq_true rfl) (Nat.le_of_ble_eq_true rfl) rfl (c2_X12_isSignHere _ hI.1 _) (fun x17 h16 zx17 ph16 => ?_)
            obtain ⟨rfl, p_x17⟩ := ph16
            refine sx_if_ne (tgt := 71) dX12_rankHere_59 (by decide) (fun c18 => ?_) (fun c18 => ?_)
            ·
              have vx17 : x17 = 1 := by rcases zx17 with q | q; (exact absurd q c18); exact q
              replace p_x17 := p_x17 vx17
              clear zx17
              refine sx_iconst dX12_rankHere_71 ⟨by decide, by decide⟩ ?_
              refine sx_ireturn dX12_rankHere_72 ?_
              exact ⟨_, rfl, ⟨rfl, ⟨by decide, by decide, by decide, fun q => by first | omega | (exact absurd rfl q), fun q => by first | (exact absurd q (by decide)) | (unfold opS; omega)⟩⟩⟩
            ·
              clear p_x17
              clear zx17
              refine sx_aload_n dX12_rankHere_62 rfl ?_
              refine sx_bipush dX12_rankHere_63 ⟨by decide, by decide, by decide⟩ ?_
              refine sx_callVz lk_X12_379 cl_12 s_224 (by decide) dX12_rankHere_65 (vs := [_]) rfl rfl (Nat.le_of_ble_eq_true rfl) (Nat.le_of_ble_eq_true rfl) rfl (c2_X12_isSignHere _ hI.1 _) (fun x20 h19 zx20 ph19 => ?_)
              obtain ⟨rfl, p_x20⟩ := ph19
              refine sx_if_eq (tgt := 73) dX12_rankHere_68 (by decide) (fun c21 => ?_) (fun c21 => ?_)
              ·
                clear p_x20
                clear zx20
                refine sx_aload_n dX12_rankHere_73 rfl ?_
                refine sx_bipush dX12_rankHere_74 ⟨by decide, by decide, by decide⟩ ?_
                refine sx_callVz lk_X12_379 cl_12 s_224 (by decide) dX12_rankHere_76 (vs := [_]) rfl rfl (Nat.le_of_ble_eq_true rfl) (Nat.le_of_ble_eq_true rfl) rfl (c2_X12_isSignHere _ hI.1 _) (fun x23 h22 zx23 ph22 => ?_)
                obtain ⟨rfl, p_x23⟩ := ph22
                refine sx_if_ne (tgt := 100) dX12_rankHere_79 (by decide) (fun c24 => ?_) (fun c24 => ?_)
                ·
                  have vx23 : x23 = 1 := by rcases zx23 with q | q; (exact absurd q c24); exact q
                  replace p_x23 := p_x23 vx23
                  clear zx23
                  refine sx_bipush dX12_rankHere_100 ⟨by decide, by decide, by decide⟩ ?_
                  refine sx_goto (tgt := 106) dX12_rankHere_102 (by decide) ?_
                  refine sx_ireturn dX12_rankHere_106 ?_
                  exact ⟨_, rfl, ⟨rfl, ⟨by decide, by decide, by decide, fun q => by first | omega | (exact absurd rfl q), fun q => by first | (exact absurd q (by decide)) | (unfold opS; omega)⟩⟩⟩
                ·
                  clear p_x23
                  clear zx23
                  refine sx_aload_n dX12_rankHere_82 rfl ?_
                  refine sx_bipush dX12_rankHere_83 ⟨by decide, by decide, by decide⟩ ?_
                  refine sx_callVz lk_X12_379 cl_12 s_224 (by decide) dX12_rankHere_85 (vs := [_]) rfl rfl (Nat.le_of_ble_eq_true rfl) (Nat.le_of_ble_eq_true rfl) rfl (c2_X12_isSignHere _ hI.1 _) (fun x26 h25 zx26 ph25 => ?_)
                  obtain ⟨rfl, p_x26⟩ := ph25
                  refine sx_if_ne (tgt := 100) dX12_rankHere_88 (by decide) (fun c27 => ?_) (fun c27 => ?_)
                  ·
                    have vx26 : x26 = 1 := by rcases zx26 with q | q; (exact absurd q c27); exact q
                    replace p_x26 := p_x26 vx26
                    clear zx26
                    refine sx_bipush dX12_rankHere_100 ⟨by decide, by decide, by decide⟩ ?_
                    refine sx_goto (tgt := 106) dX12_rankHere_102 (by decide) ?_
                    refine sx_ireturn dX12_rankHere_106 ?_
                    exact ⟨_, rfl, ⟨rfl, ⟨by decide, by decide, by decide, fun q => by first | omega | (exact absurd rfl q), fun q => by first | (exact absurd q (by decide)) | (unfold opS; omega)⟩⟩⟩
                  ·
                    clear p_x26
                    clear zx26
                    refine sx_aload_n dX12_rankHere_91 rfl ?_
                    refine sx_bipush dX12_rankHere_92 ⟨by decide, by decide, by decide⟩ ?_
                    refine sx_callVz lk_X12_379 cl_12 s_224 (by decide) dX12_rankHere_94 (vs := [_]) rfl rfl (Nat.le_of_ble_eq_true rfl) (Nat.le_of_ble_eq_true rfl) rfl (c2_X12_isSignHere _ hI.1 _) (fun x29 h28 zx29 ph28 => ?_)
                    obtain ⟨rfl, p_x29⟩ := ph28
                    refine sx_if_eq (tgt := 105) dX12_rankHere_97 (by decide) (fun c30 => ?_) (fun c30 => ?_)
                    ·
                      clear p_x29
                      clear zx29
                      refine sx_iconst dX12_rankHere_105 ⟨by decide, by decide⟩ ?_
                      refine sx_ireturn dX12_rankHere_106 ?_
                      exact ⟨_, rfl, ⟨rfl, ⟨by decide, by decide, by decide, fun q => by first | omega | (exact absurd rfl q), fun q => by first | (exact absurd q (by decide)) | (unfold opS; omega)⟩⟩⟩
                    ·
                      have vx29 : x29 = 1 := by rcases zx29 with q | q; (exact absurd q c30); exact q
                      replace p_x29 := p_x29 vx29
                      clear zx29
                      refine sx_bipush dX12_rankHere_100 ⟨by decide, by decide, by decide⟩ ?_
                      refine sx_goto (tgt := 106) dX12_rankHere_102 (by decide) ?_
                      refine sx_ireturn dX12_rankHere_106 ?_
                      exact ⟨_, rfl, ⟨rfl, ⟨by decide, by decide, by decide, fun q => by first | omega | (exact absurd rfl q), fun q => by first | (exact absurd q (by decide)) | (unfold opS; omega)⟩⟩⟩
              ·
                have vx20 : x20 = 1 := by rcases zx20 with q | q; (exact absurd q c21); exact q
                replace p_x20 := p_x20 vx20
                clear zx20
                refine sx_iconst dX12_rankHere_71 ⟨by decide, by decide⟩ ?_
                refine sx_ireturn dX12_rankHere_72 ?_
                exact ⟨_, rfl, ⟨rfl, ⟨by decide, by decide, by decide, fun q => by first | omega | (exact absurd rfl q), fun q => by first | (exact absurd q (by decide)) | (unfold opS; omega)⟩⟩⟩
          ·
            have vx14 : x14 = 1 := by rcases zx14 with q | q; (exact absurd q c15); exact q
            replace p_x14 := p_x14 vx14
            clear zx14
            refine sx_iconst dX12_rankHere_51 ⟨by decide, by decide⟩ ?_
            refine sx_ireturn dX12_rankHere_52 ?_
            exact ⟨_, rfl, ⟨rfl, ⟨by decide, by decide, by decide, fun q => by first | omega | (exact absurd rfl q), fun q => by first | (exact absurd q (by decide)) | (unfold opS; omega)⟩⟩⟩
    ·
      have vx5 : x5 = 1 := by rcases zx5 with q | q; (exact absurd q c6); exact q
      replace p_x5 := p_x5 vx5
      clear zx5
      refine sx_iconst dX12_rankHere_22 ⟨by decide, by decide⟩ ?_
      refine sx_ireturn dX12_rankHere_23 ?_
      exact ⟨_, rfl, ⟨rfl, ⟨by decide, by decide, by decide, fun q => by first | omega | (exact absurd rfl q), fun q => by first | (exact absurd q (by decide)) | (unfold opS; omega)⟩⟩⟩
  ·
    have vx2 : x2 = 1 := by rcases zx2 with q | q; (exact absurd q c3); exact q
    replace p_x2 := p_x2 vx2
    clear zx2
    refine sx_iconst dX12_rankHere_10 ⟨by decide, by decide⟩ ?_
    refine sx_ireturn dX12_rankHere_11 ?_
    exact ⟨_, rfl, ⟨rfl, ⟨by decide, by decide, by decide, fun q => by first | omega | (exact absurd rfl q), fun q => by first | (exact absurd q (by decide)) | (unfold opS; omega)⟩⟩⟩
set_option maxRecDepth 20000 in
set_option maxHeartbeats 4000000 in
theorem c_X12_isCompared {G : sw_G} (d : Nat) {h0 : sw_H} (hJ : mI h0) (hp : 1 ≤ h0 224 40 ∧ h0 224 40 ≤ 90) (h8 : h0 249 0 = 8)  : sw_E G NH SH (d) mX12_isCompared 0 [some (sw_r 224), none] [] h0 (sw_Qz (fun z h' => h0 = h')) := by
  have hI : mK (prW [] []) h0 h0 := mK.refl hJ
  refine sx_aload_n dX12_isCompared_0 rfl ?_
  refine sx_getI (k := 40) cl_12 fl_X12_458 dX12_isCompared_1 s_224 (by decide) rfl (by decide) ?_
  refine sx_iconst dX12_isCompared_4 ⟨by decide, by decide⟩ ?_
  refine sx_isub dX12_isCompared_5 ?_
  refine sy_topw (by omega) ?_
  refine sy_top (fun v1 ev1 => ?_)
  refine sx_istore_n dX12_isCompared_6 (by decide) ?_
  refine sx_loop1 (fun (h : sw_H) (k : Int) => (h0 = h) ∧ (0 ≤ k) ∧ (k < h0 224 40)) (fun (h : sw_H) (k : Int) => k.toNat) (fun (h : sw_H) (k : Int) => sw_E G NH SH (d) mX12_isCompared 7 [some (sw_r 224), some (sw_i k)] [] h (sw_Qz (fun z h' => h0 = h'))) ?_ _ _ ?_
  · rintro h2 k_3 ⟨rfl, k0, k1⟩ ihh2
    try dsimp only at ihh2
    have hk8 : k_3 = 0 → h0 249 (k_3).toNat = 8 := fun q => by rw [q]; exact h8
    refine sx_aload_n dX12_isCompared_7 rfl ?_
    refine sx_getS (k := 33) (t := 249) cl_12 fl_X12_88 dX12_isCompared_8 s_224 (by decide) rfl (by decide) ?_
    refine sx_iload_n dX12_isCompared_11 rfl ?_
    refine sx_iaload dX12_isCompared_12 s_249 (by decide) (by decide) ⟨by omega, by omega⟩ ?_
    refine sx_iconst dX12_isCompared_13 ⟨by decide, by decide⟩ ?_
    refine sx_icmp_eq (tgt := 28) dX12_isCompared_14 (by decide) (fun c4 => ?_) (fun c4 => ?_)
    ·
      refine sx_iinc dX12_isCompared_28 (by decide) rfl ?_
      rw [sw_w_id (by omega) (by omega)]
      refine sx_goto (tgt := 7) dX12_isCompared_31 (by decide) ?_
      exact ihh2 _ _ ⟨rfl, by omega, by omega⟩ (by exact sy_dec (by omega) (by omega))
    ·
      refine sx_aload_n dX12_isCompared_17 rfl ?_
      refine sx_getS (k := 33) (t := 249) cl_12 fl_X12_88 dX12_isCompared_18 s_224 (by decide) rfl (by decide) ?_
      refine sx_iload_n dX12_isCompared_21 rfl ?_
      refine sx_iaload dX12_isCompared_22 s_249 (by decide) (by decide) ⟨by omega, by omega⟩ ?_
      refine sx_bipush dX12_isCompared_23 ⟨by decide, by decide, by decide⟩ ?_
      refine sx_icmp_ne (tgt := 34) dX12_isCompared_25 (by decide) (fun c5 => ?_) (fun c5 => ?_)
      ·
        refine sx_aload_n dX12_isCompared_34 rfl ?_
        refine sx_getS (k := 33) (t := 249) cl_12 fl_X12_88 dX12_isCompared_35 s_224 (by decide) rfl (by decide) ?_
        refine sx_iload_n dX12_isCompared_38 rfl ?_
        refine sx_iaload dX12_isCompared_39 s_249 (by decide) (by decide) ⟨by omega, by omega⟩ ?_
        refine sx_iconst dX12_isCompared_40 ⟨by decide, by decide⟩ ?_
        refine sx_icmp_ne (tgt := 48) dX12_isCompared_41 (by decide) (fun c6 => ?_) (fun c6 => ?_)
        ·
          refine sx_iconst dX12_isCompared_48 ⟨by decide, by decide⟩ ?_
          refine sx_ireturn dX12_isCompared_49 ?_
          exact ⟨_, rfl, by omega, rfl⟩
        ·
          refine sx_iconst dX12_isCompared_44 ⟨by decide, by decide⟩ ?_
          refine sx_goto (tgt := 49) dX12_isCompared_45 (by decide) ?_
          refine sx_ireturn dX12_isCompared_49 ?_
          exact ⟨_, rfl, by omega, rfl⟩
      ·
        refine sx_iinc dX12_isCompared_28 (by decide) rfl ?_
        rw [sw_w_id (by omega) (by omega)]
        refine sx_goto (tgt := 7) dX12_isCompared_31 (by decide) ?_
        exact ihh2 _ _ ⟨rfl, by omega, by omega⟩ (by exact sy_dec (by omega) (by omega))
  · exact ⟨rfl, by omega, by omega⟩
set_option maxRecDepth 20000 in
set_option maxHeartbeats 4000000 in
theorem c_X12_emit {G : sw_G} (d : Nat) {h0 : sw_H} (hJ : mI h0) (b : Nat) (y1 y2 : Int) (hc : b ≤ 1 ∧ 560 * (1 - (b : Int)) ≤ h0 224 38 ∧ h0 224 38 < 560 * (1 - (b : Int)) + 560)  : sw_E G NH SH (d) mX12_emit 0 [some (sw_r 224), some (sw_i y1), some (sw_i y2)] [] h0 (sw_Qv (fun h' => mK (prB b [38] [247, 248]) h0 h' ∧ (h' 224 38 = h0 224 38 + 1) ∧ (∀ k : Nat, h' 247 k = if (k : Int) = h0 224 38 then y1 else h0 247 k))) := by
  have hI : mK (prB b [38] [247, 248]) h0 h0 := mK.refl hJ
  refine sx_aload_n dX12_emit_0 rfl ?_
  refine sx_getS (k := 31) (t := 247) cl_12 fl_X12_82 dX12_emit_1 s_224 (by decide) rfl (by decide) ?_
  refine sx_aload_n dX12_emit_4 rfl ?_
  refine sx_getI (k := 38) cl_12 fl_X12_343 dX12_emit_5 s_224 (by decide) rfl (by decide) ?_
  refine sx_iload_n dX12_emit_8 rfl ?_
  refine sy_iastore dX12_emit_9 s_247 (by decide) (by decide) ⟨by omega, by omega⟩ (fun h1 eh1 => ?_)
  have Ih1 := hI.up eh1 trivial (decide_eq_false (show ¬ (560 * b ≤ _ ∧ _ < 560 * b + 560) by omega))
  have th1_224_38 := eh1.2 (224) 38 (by omega)
  refine sx_aload_n dX12_emit_10 rfl ?_
  refine sx_getS (k := 32) (t := 248) cl_12 fl_X12_85 dX12_emit_11 s_224 (by decide) rfl (by decide) ?_
  refine sx_aload_n dX12_emit_14 rfl ?_
  refine sx_getI (k := 38) cl_12 fl_X12_343 dX12_emit_15 s_224 (by decide) rfl (by decide) ?_
  refine sx_iload_n dX12_emit_18 rfl ?_
  refine sy_iastore dX12_emit_19 s_248 (by decide) (by decide) ⟨by omega, by omega⟩ (fun h2 eh2 => ?_)
  have Ih2 := Ih1.up eh2 trivial (decide_eq_false (show ¬ (560 * b ≤ _ ∧ _ < 560 * b + 560) by omega))
  have th2_224_38 := eh2.2 (224) 38 (by omega)
  refine sx_aload_n dX12_emit_20 rfl ?_
  refine sx_dupr dX12_emit_21 ?_
  refine sx_getI (k := 38) cl_12 fl_X12_343 dX12_emit_22 s_224 (by decide) rfl (by decide) ?_
  refine sx_iconst dX12_emit_25 ⟨by decide, by decide⟩ ?_
  refine sx_iadd dX12_emit_26 ?_
  refine sy_topw (by omega) ?_
  refine sy_putI (k := 38) cl_12 fl_X12_343 dX12_emit_27 s_224 (by decide) rfl (by decide) rfl rfl (fun h3 eh3 => ?_)
  have Ih3 := Ih2.up eh3 trivial rfl
  have th3_224_38 := eh3.1
  refine sx_ret dX12_emit_30 ?_
  exact ⟨rfl, ⟨Ih3, by omega, fun k => by rw [eh3.2 247 k (by omega), eh2.2 247 k (by omega), eh1.at 247 k]; all_goals (try simp only [Nat.reduceEqDiff, false_and, if_false, true_and]); all_goals (by_cases q : (k : Int) = h0 224 38; (rw [if_pos (by omega), if_pos q]); (rw [if_neg (by omega), if_neg q]))⟩⟩
set_option maxRecDepth 20000 in
set_option maxHeartbeats 4000000 in
theorem c_X12_pushE {G : sw_G} (d : Nat) {h0 : sw_H} (hJ : mI h0) (y1 y2 : Int) (hc : 0 ≤ h0 224 40 ∧ h0 224 40 < 90)  : sw_E G NH SH (d) mX12_pushE 0 [some (sw_r 224), some (sw_i y1), some (sw_i y2)] [] h0 (sw_Qv (fun h' => mK (prW [40] [249, 250]) h0 h' ∧ (h' 224 40 = h0 224 40 + 1) ∧ (∀ k : Nat, h' 249 k = if (k : Int) = h0 224 40 then y1 else h0 249 k) ∧ (∀ k : Nat, h' 250 k = if (k : Int) = h0 224 40 then y2 else h0 250 k))) := by
  have hI : mK (prW [40] [249, 250]) h0 h0 := mK.refl hJ
  refine sx_aload_n dX12_pushE_0 rfl ?_
  refine sx_getS (k := 33) (t := 249) cl_12 fl_X12_88 dX12_pushE_1 s_224 (by decide) rfl (by decide) ?_
  refine sx_aload_n dX12_pushE_4 rfl ?_
  refine sx_getI (k := 40) cl_12 fl_X12_458 dX12_pushE_5 s_224 (by decide) rfl (by decide) ?_
  refine sx_iload_n dX12_pushE_8 rfl ?_
  refine sy_iastore dX12_pushE_9 s_249 (by decide) (by decide) ⟨by omega, by omega⟩ (fun h1 eh1 => ?_)
  have Ih1 := hI.up eh1 trivial rfl
  have th1_224_40 := eh1.2 (224) 40 (by omega)
  refine sx_aload_n dX12_pushE_10 rfl ?_
  refine sx_getS (k := 34) (t := 250) cl_12 fl_X12_91 dX12_pushE_11 s_224 (by decide) rfl (by decide) ?_
  refine sx_aload_n dX12_pushE_14 rfl ?_
  refine sx_getI (k := 40) cl_12 fl_X12_458 dX12_pushE_15 s_224 (by decide) rfl (by decide) ?_
  refine sx_iload_n dX12_pushE_18 rfl ?_
  refine sy_iastore dX12_pushE_19 s_250 (by decide) (by decide) ⟨by omega, by omega⟩ (fun h2 eh2 => ?_)
  have Ih2 := Ih1.up eh2 trivial rfl
  have th2_224_40 := eh2.2 (224) 40 (by omega)
  refine sx_aload_n dX12_pushE_20 rfl ?_
  refine sx_dupr dX12_pushE_21 ?_
  refine sx_getI (k := 40) cl_12 fl_X12_458 dX12_pushE_22 s_224 (by decide) rfl (by decide) ?_
  refine sx_iconst dX12_pushE_25 ⟨by decide, by decide⟩ ?_
  refine sx_iadd dX12_pushE_26 ?_
  refine sy_topw (by omega) ?_
  refine sy_putI (k := 40) cl_12 fl_X12_458 dX12_pushE_27 s_224 (by decide) rfl (by decide) rfl rfl (fun h3 eh3 => ?_)
  have Ih3 := Ih2.up eh3 trivial rfl
  have th3_224_40 := eh3.1
  refine sx_ret dX12_pushE_30 ?_
  exact ⟨rfl, ⟨Ih3, by omega, fun k => by rw [eh3.2 249 k (by omega), eh2.2 249 k (by omega), eh1.at 249 k]; all_goals (try simp only [Nat.reduceEqDiff, false_and, if_false, true_and]); all_goals (by_cases q : (k : Int) = h0 224 40; (rw [if_pos (by omega), if_pos q]); (rw [if_neg (by omega), if_neg q])), fun k => by rw [eh3.2 250 k (by omega), eh2.at 250 k, eh1.2 250 k (by omega)]; all_goals (try simp only [Nat.reduceEqDiff, false_and, if_false, true_and]); all_goals (by_cases q : (k : Int) = h0 224 40; (rw [if_pos (by omega), if_pos q]); (rw [if_neg (by omega), if_neg q]))⟩⟩

-- ===== a WORD is whole =====
theorem RI_done {h h' : sw_H} {r w : Int} {i : Nat} (hr : 0 ≤ r) (hw : 0 ≤ w) (R : RI h r w i) (hB : RBx h r w (h 233 (6 * r + w).toNat)) (o : h 224 55 = 0) (u : h 224 54 = 0) (e5 : h' 235 (6 * r + w).toNat = h 224 56) (e6 : h' 236 (6 * r + w).toNat = h 224 53) (e7 : h' 237 (6 * r + w).toNat = h 224 57)
    (ek : ∀ a k, a = 233 ∨ a = 234 ∨ a = 240 ∨ a = 241 ∨ a = 243 → h' a k = h a k) (el : ∀ a k : Nat, 235 ≤ a → a ≤ 237 → (k : Int) < 6 * r + w → h' a k = h a k) (ei : h' 228 r.toNat = h 228 r.toNat) : RBx h' r (w + 1) (h' 228 r.toNat) := by
  obtain ⟨k1, k2, k3, k4, k5, k6, k7, H, U, L⟩ := R
  have eF : rF h' r w = rF h r w := by unfold rF; rw [ek 233 _ (by omega)]
  have eN : rN h' r w = (i : Int) := by unfold rN; rw [ek 234 _ (by omega)]; exact k2
  have eS : rS h' r w = rS h r w := by funext j; unfold rS; rw [eF, ek 240 _ (by omega)]
  have eV : rV h' r w = rV h r w := by funext j; unfold rV; rw [eF, ek 241 _ (by omega)]
  have eG : rG h' r w = rG h r w := by funext j; unfold rG; rw [eF, ek 243 _ (by omega)]
  have fr : Fr h h' r w (h 233 (6 * r + w).toNat) := by
    refine ⟨fun a k h1 h2 h3 h4 => ?_, fun a k ha _ _ => ek a k (by omega)⟩
    by_cases q : a ≤ 234
    · exact ek a k (by omega)
    · exact el a k (by omega) h2 h4
  have hB' := RBx_frame hr fr hB
  intro c c0 c1
  by_cases q : c < w
  · obtain ⟨a, b⟩ := hB' c c0 q
    exact ⟨by rw [ei, k5]; omega, b⟩
  · have e : c = w := by omega
    subst e
    have eN' : (rN h' r c).toNat = i := by rw [eN]; omega
    refine ⟨by rw [ei, k5, eN, ek 233 _ (by omega)]; omega, ?_⟩
    obtain ⟨l1, l2, l3, l4, l5, l6, l7, l8, l9, l10, l11, l12, l13⟩ := L
    unfold WdB
    rw [eN', eS, eV, eG, ek 233 _ (by omega)]
    refine ⟨k4, by rw [eN]; omega, k7, ?_, ?_⟩
    · have hl : (tT (rS h r c) i).length = 0 := by omega
      exact List.length_eq_zero_iff.mp hl
    · unfold Sd
      have q5 : qN h' r c = h 224 56 := e5
      have q6 : qL h' r c = h 224 53 := e6
      have q7 : qH h' r c = h 224 57 := e7
      rw [q5, q6, q7]
      refine ⟨l5, l6, l7, l8, H, U, l1, l2, l3.symm, by rw [← l4]; exact u, l11, fun j hj => ?_⟩
      refine tL_congr (fun x _ => ⟨rfl, rfl⟩) (fun q2 => ?_) (l12 j hj)
      have hi := (k7 j hj).1.2.2.2.1 q2
      unfold kN kL kH qN qL qH
      rw [k1]
      exact ⟨el 235 _ (by omega) (by omega) (by omega), el 236 _ (by omega) (by omega) (by omega), el 237 _ (by omega) (by omega) (by omega)⟩
/-- where the look begins -/
theorem RI_begin {h : sw_H} {r w : Int} (k1 : h 224 52 = r) (k2 : h 234 (6 * r + w).toNat = 0) (k4 : 0 ≤ h 233 (6 * r + w).toNat) (k5 : h 228 r.toNat = h 233 (6 * r + w).toNat) (k6 : h 228 r.toNat ≤ 60) (z3 : h 224 53 = 0) (z4 : h 224 54 = 0) (z5 : h 224 55 = 0) (z6 : h 224 56 = 0) (z7 : h 224 57 = 0) : RI h r w 0 := by
  refine ⟨k1, by rw [k2]; rfl, by omega, k4, by rw [k5]; omega, k6, fun j hj => by omega, fun _ => 0, fun _ => 0, rfl, rfl, z3, z4, by omega, by omega, by omega, by omega, by rw [z5]; rfl, by omega, fun j _ => by dsimp only; omega, fun j hj => by omega, fun pre p r e => by simp [tT] at e⟩
def rdP (a k : Nat) : Prop := (a = 224 ∧ 52 ≤ k ∧ k ≤ 57) ∨ (227 ≤ a ∧ a ≤ 260)
theorem RI_eq {h h1 : sw_H} {r w : Int} {i : Nat} (ea : ∀ a k, rdP a k → h1 a k = h a k) (R : RI h r w i) : RI h1 r w i := by
  have e2 : ∀ a k, 227 ≤ a → a ≤ 260 → h1 a k = h a k := fun a k h1 h2 => ea a k (Or.inr ⟨h1, h2⟩)
  have eF : rF h1 r w = rF h r w := by unfold rF; rw [e2 233 _ (by omega) (by omega)]
  have eS : rS h1 r w = rS h r w := by funext j; unfold rS; rw [eF, e2 240 _ (by omega) (by omega)]
  have eV : rV h1 r w = rV h r w := by funext j; unfold rV; rw [eF, e2 241 _ (by omega) (by omega)]
  have eG : rG h1 r w = rG h r w := by funext j; unfold rG; rw [eF, e2 243 _ (by omega) (by omega)]
  obtain ⟨k1, k2, k3, k4, k5, k6, k7, H, U, L⟩ := R
  unfold RI
  rw [eF, eS, eV, eG, ea 224 52 (Or.inl ⟨rfl, by omega, by omega⟩), e2 234 _ (by omega) (by omega), e2 233 _ (by omega) (by omega), e2 228 _ (by omega) (by omega)]
  refine ⟨k1, k2, k3, k4, k5, k6, k7, H, U, LI_congr (fun k h1 h2 => ea 224 k (Or.inl ⟨rfl, h1, h2⟩)) (fun a k h1 h2 => e2 a k (by omega) (by omega)) (fun j _ _ => ?_) (fun j _ => ⟨rfl, rfl⟩) L⟩
  unfold kN kL kH
  rw [ea 224 52 (Or.inl ⟨rfl, by omega, by omega⟩), e2 235 _ (by omega) (by omega), e2 236 _ (by omega) (by omega), e2 237 _ (by omega) (by omega)]
  exact ⟨rfl, rfl, rfl⟩
theorem RBx_eq {h h1 : sw_H} {r w X : Int} (hr : 0 ≤ r) (ea : ∀ a k, 227 ≤ a → a ≤ 260 → h1 a k = h a k) (R : RBx h r w X) : RBx h1 r w X := RBx_frame hr ⟨fun a k h1 h2 _ _ => ea a k (by omega) (by omega), fun a k q _ _ => ea a k (by omega) (by omega)⟩ R
/-- what touches the tokens alone -/
theorem tok_rd {h h1 : sw_H} (K : mK (prW [4, 5, 6, 7, 8, 9, 10] []) h h1) : ∀ a k, rdP a k → h1 a k = h a k := by
  intro a k q
  refine K.2 a k ?_
  rcases q with ⟨rfl, q1, q2⟩ | ⟨q1, q2⟩
  · have : k = 52 ∨ k = 53 ∨ k = 54 ∨ k = 55 ∨ k = 56 ∨ k = 57 := by omega
    rcases this with rfl | rfl | rfl | rfl | rfl | rfl <;> rfl
  · simp only [prW, Bool.not_eq_true', Bool.or_eq_false_iff, Bool.and_eq_false_iff, beq_eq_false_iff_ne, ne_eq]
    exact ⟨Or.inl (by omega), rfl⟩

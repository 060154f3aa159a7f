-- ===== a THING thought ahead of the last WORD =====
theorem prWB_sub {b : Nat} {fs as fs' as' : List Nat} (h1 : fs'.all (fun x => fs.contains x) = true) (h2 : as'.all (fun x => as.contains x) = true) : ∀ a k, prW fs as a k = true → prB b fs' as' a k = true := fun a k q => by
  unfold prB
  rw [prW_sub h1 h2 a k q]
  rfl
def hT (h : sw_H) (t : Int) : sw_H := fun a k => if a = 224 ∧ k = 71 then t else h a k
theorem hT_ne {h : sw_H} {t : Int} {a k : Nat} (q : ¬ (a = 224 ∧ k = 71)) : hT h t a k = h a k := if_neg q
theorem hT_71 {h : sw_H} {t : Int} : hT h t 224 71 = t := if_pos ⟨rfl, rfl⟩
def lst (h : sw_H) : Int := h 227 (h 224 36).toNat - 1
/-- the CODE's places but for the jumps, by what is kept, and the jumps -/
theorem cd_g {fs as : List Nat} {h h1 : sw_H} (K : mK (prW fs as) h h1) (hf : fs.all (fun x => !(x == 36)) = true) (ha : as.all (fun x => decide (x ≠ 224 ∧ (x < 227 ∨ 248 < x ∨ x = 243))) = true) (g : ∀ k, h1 243 k = h 243 k) : ∀ a k, (a = 224 ∧ k = 36) ∨ (227 ≤ a ∧ a ≤ 248) → h1 a k = h a k := by
  intro a j q
  by_cases q3 : a = 243
  · subst q3; exact g j
  · refine K.2 a j ?_
    rw [List.all_eq_true] at hf ha
    simp only [prW, Bool.not_eq_true', Bool.or_eq_false_iff, Bool.and_eq_false_iff, beq_eq_false_iff_ne, ne_eq]
    refine ⟨?_, ?_⟩
    · by_cases e : a = 224
      · right
        cases c : fs.contains j with
        | false => rfl
        | true =>
          have := hf j (List.contains_iff_mem.mp c)
          simp only [Bool.not_eq_true', beq_eq_false_iff_ne, ne_eq] at this
          omega
      · exact Or.inl e
    · cases c : as.contains a with
      | false => rfl
      | true => have := of_decide_eq_true (ha a (List.contains_iff_mem.mp c)); omega
theorem cdK_T {h h1 : sw_H} {t : Int} (e : ∀ a k, (a = 224 ∧ k = 36) ∨ (227 ≤ a ∧ a ≤ 248) → h1 a k = h a k) (e71 : h1 224 71 = t) : cdK (hT h t) h1 := by
  intro a k q
  simp only [cdP, Bool.or_eq_true, Bool.and_eq_true, beq_iff_eq, decide_eq_true_eq] at q
  by_cases q2 : a = 224 ∧ k = 71
  · rw [q2.1, q2.2, hT_71]; exact e71
  · rw [hT_ne q2]
    exact e a k (by omega)
theorem tT_thing {s s' : Nat → Int} (h0 : s' 0 = 0) (h1 : s 0 = 0 ∨ s 0 = 1 ∨ s 0 = 2) (e : ∀ j, j ≠ 0 → s' j = s j) : ∀ i, tT s' i = tT s i
  | 0 => rfl
  | i + 1 => by
    have ih := tT_thing h0 h1 e i
    by_cases q : i = 0
    · subst q
      rw [tT_flat (by omega), tT_flat (by omega), ih]
    · simp only [tT]
      rw [ih, e i q]
theorem tS_thing {s s' : Nat → Int} (h0 : s' 0 = 0) (h1 : s 0 = 0 ∨ s 0 = 1 ∨ s 0 = 2) (e : ∀ j, j ≠ 0 → s' j = s j) {j : Nat} (k : tS s j) : tS s' j := by
  by_cases q : j = 0
  · subst q
    exact ⟨fun a => by omega, fun a => by omega, fun a => by omega, fun a => by omega⟩
  · obtain ⟨k1, k2, k3, k4⟩ := k
    unfold tS
    rw [tT_thing h0 h1 e j, e j q]
    have hp : ∀ p r, tT s j = p :: r → s' p = s p := fun p r er => by
      clear k1 k2 k3 k4
      have := (tT_head er).2.1
      by_cases q2 : p = 0
      · subst q2; omega
      · exact e p q2
    refine ⟨fun a => ?_, fun a => ?_, fun a => ?_, k4⟩
    · obtain ⟨p, r, e1, e2⟩ := k1 a; exact ⟨p, r, e1, by rw [hp p r e1]; exact e2⟩
    · obtain ⟨p, r, e1, e2⟩ := k2 a; exact ⟨p, r, e1, by rw [hp p r e1]; exact e2⟩
    · obtain ⟨p, r, e1, e2⟩ := k3 a; exact ⟨p, r, e1, by rw [hp p r e1]; exact e2⟩
theorem tG_thing {s s' g : Nat → Int} (h0 : s' 0 = 0) (h1 : s 0 = 0 ∨ s 0 = 1 ∨ s 0 = 2) (e : ∀ j, j ≠ 0 → s' j = s j) {j : Nat} (k : tG s g j) : tG s' g j := by
  by_cases q : j = 0
  · subst q
    exact ⟨fun a => by omega, fun a => by omega⟩
  · unfold tG at k ⊢
    rw [tT_thing h0 h1 e j, e j q]
    exact k
/-- the last WORD with a THING thought in its first place: what its ITEMS are -/
def thI (h : sw_H) (t : Int) : Prop := 0 ≤ lst h ∧ lst h < 6 ∧ 1 ≤ wn h (lst h) ∧ 0 ≤ h 233 (6 * h 224 36 + lst h).toNat ∧ h 233 (6 * h 224 36 + lst h).toNat + wn h (lst h) ≤ 60 ∧ (∀ j : Nat, j < (wn h (lst h)).toNat → iC (fS (hT h t) (lst h) j) (fV (hT h t) (lst h) j) (lst h) ∧ 0 ≤ fV (hT h t) (lst h) j ∧ tS (fS (hT h t) (lst h)) j ∧ tG (fS (hT h t) (lst h)) (fG h (lst h)) j) ∧ tT (fS (hT h t) (lst h)) (wn h (lst h)).toNat = []
theorem th_I {h : sw_H} (hC : mC h) (hJ : mI h) {t : Int} (ht : 0 ≤ t ∧ t ≤ 14) (hl : 0 ≤ lst h) (hn : h 234 (6 * h 224 36 + lst h).toNat ≠ 0) (hs : h 240 (60 * h 224 36 + h 233 (6 * h 224 36 + lst h).toNat + 0).toNat ≤ 2) : thI h t := by
  have hl' : lst h = h 227 (h 224 36).toNat - 1 := rfl
  obtain ⟨m1, m2, m3, m4⟩ := mC_w hC hJ (w := lst h) hl (by omega)
  have rb : (0 : Int) ≤ h 224 36 ∧ h 224 36 ≤ 1 := hJ 224 36
  obtain ⟨-, b1, b2, b3, b4, b5⟩ := hC.2.2 (lst h) hl (by omega)
  have eF : ∀ j : Nat, j ≠ 0 → fS (hT h t) (lst h) j = rS h (h 224 36) (lst h) j := fun j hj => by
    unfold fS sO rS rF
    rw [if_neg (by omega), hT_ne (by omega), hT_ne (by omega), hT_ne (by omega)]
  have eV : ∀ j : Nat, j ≠ 0 → fV (hT h t) (lst h) j = rV h (h 224 36) (lst h) j := fun j hj => by
    unfold fV wO rV rF
    rw [if_neg (by omega), hT_ne (by omega), hT_ne (by omega), hT_ne (by omega)]
  have c0 : 0 ≤ hT h t 224 71 ∧ ((0 : Nat) : Int) = 0 ∧ lst h = hT h t 227 (hT h t 224 36).toNat - 1 := by
    rw [hT_71, hT_ne (by omega), hT_ne (by omega)]
    exact ⟨ht.1, rfl, rfl⟩
  have f0 : fS (hT h t) (lst h) 0 = 0 := by
    unfold fS sO
    rw [if_pos c0]
  have v0 : fV (hT h t) (lst h) 0 = t := by
    unfold fV wO
    rw [if_pos c0, hT_71]
  have s0 : rS h (h 224 36) (lst h) 0 = 0 ∨ rS h (h 224 36) (lst h) 0 = 1 ∨ rS h (h 224 36) (lst h) 0 = 2 := by
    have r : (0 : Int) ≤ rS h (h 224 36) (lst h) 0 := (show (0 : Int) ≤ _ ∧ _ ≤ (7 : Int) from hJ 240 _).1
    have e : rS h (h 224 36) (lst h) 0 = h 240 (60 * h 224 36 + h 233 (6 * h 224 36 + lst h).toNat + 0).toNat := rfl
    omega
  have eN : rN h (h 224 36) (lst h) = wn h (lst h) := rfl
  have eW : wn h (lst h) = h 234 (6 * h 224 36 + lst h).toNat := rfl
  have eG : fG h (lst h) = rG h (h 224 36) (lst h) := rfl
  refine ⟨hl, m1, by omega, m2, by omega, fun j hj => ?_, by rw [tT_thing f0 s0 eF]; exact b4⟩
  obtain ⟨a1, a2, a3⟩ := b3 j hj
  refine ⟨?_, ?_, tS_thing f0 s0 eF a2, by rw [eG]; exact tG_thing f0 s0 eF a3⟩
  · by_cases q : j = 0
    · subst q; rw [f0, v0]; exact ⟨by omega, by omega, fun _ => by omega, fun q => by omega, fun q => by omega⟩
    · rw [eF j q, eV j q]; exact a1
  · by_cases q : j = 0
    · subst q; rw [v0]; omega
    · rw [eV j q]; exact (show (0 : Int) ≤ _ ∧ _ ≤ (9999 : Int) from hJ 241 _).1
/-- the jumps stay as they are while one looks again -/
theorem GP_same {h h0 h1 : sw_H} {f : Int} {s g : Nat → Int} {i : Nat} (hf : 0 ≤ f) (hG : tG s g i) (eg : ∀ j : Nat, g j = h 243 (f + j).toNat - f) (G : GP h0 h1 f s i) (e0 : ∀ k, h0 243 k = h 243 k) (tr : h0 224 51 ≠ 0) (hS : tS s i) : ∀ k, h1 243 k = h 243 k := by
  intro k
  obtain ⟨g1, g2, g3, g4⟩ := G
  by_cases q : (k : Int) = f + i
  · have ek : k = (f + i).toNat := by omega
    by_cases q5 : s i = 5 ∨ s i = 7
    · have : ∃ p r, tT s i = p :: r := by
        rcases q5 with q5 | q5
        · obtain ⟨p, r, e, -⟩ := hS.2.1 q5; exact ⟨p, r, e⟩
        · obtain ⟨p, r, e, -⟩ := hS.2.2.1 q5; exact ⟨p, r, e⟩
      obtain ⟨p, r, e⟩ := this
      have a := g3 p r e q5
      have b := (hG.2 q5 p r e).2
      rw [eg] at b
      rw [ek, a]
      omega
    · rw [ek, g4 tr (by omega) (by omega), e0]
  · by_cases q2 : ∃ p r, tT s i = p :: r ∧ (s i = 4 ∨ s i = 5 ∨ s i = 7) ∧ (k : Int) = f + p
    · obtain ⟨p, r, e, hs, hk⟩ := q2
      have a := g2 p r e hs
      have b : g p = i := by
        rcases hs with hs | hs
        · exact hG.1 hs p r e
        · exact (hG.2 hs p r e).1
      rw [eg] at b
      rw [show k = (f + p).toNat by omega, a]
      omega
    · rw [g1 k q (fun p r e hs hk => q2 ⟨p, r, e, hs, hk⟩), e0]
/-- a THING could stand there -/
def CB (h : sw_H) (t : Int) : Prop := 0 ≤ lst h ∧ lst h < 6 ∧ ∃ nd la hi, nd ≤ 3 ∧ 1 ≤ 3 + la ∧ hi ≤ 12 ∧ Wd (hT h t) (lst h) nd la hi ∧ Wds (hT h t) (lst h)
theorem Wds_T {h : sw_H} (hC : mC h) (hJ : mI h) (t : Int) (hl : lst h < 6) : Wds (hT h t) (lst h) := by
  intro c c0 c1
  have hl' : lst h = h 227 (h 224 36).toNat - 1 := rfl
  have r8 : (0 : Int) ≤ h 228 (h 224 36).toNat ∧ h 228 (h 224 36).toNat ≤ 60 := hJ 228 _
  obtain ⟨a, b1, b2, b3, b4, b5⟩ := hC.2.2 c c0 (by omega)
  have eC : hT h t 227 (hT h t 224 36).toNat = h 227 (h 224 36).toNat := by rw [hT_ne (show ¬ (224 = 224 ∧ 36 = 71) by omega), hT_ne (show ¬ (227 = 224 ∧ _ = 71) by omega)]
  have eS : fS (hT h t) c = rS h (h 224 36) c := by
    funext j
    unfold fS sO rS rF
    rw [if_neg (fun q => by omega), hT_ne (by omega), hT_ne (by omega), hT_ne (by omega)]
  have eV : fV (hT h t) c = rV h (h 224 36) c := by
    funext j
    unfold fV wO rV rF
    rw [if_neg (fun q => by omega), hT_ne (by omega), hT_ne (by omega), hT_ne (by omega)]
  have eN : wn (hT h t) c = rN h (h 224 36) c := by unfold wn rN; rw [hT_ne (by omega), hT_ne (by omega)]
  have eG : fG (hT h t) c = rG h (h 224 36) c := by funext j; unfold fG rG rF; rw [hT_ne (by omega), hT_ne (by omega), hT_ne (by omega)]
  have k1 : cN (hT h t) = qN h (h 224 36) := by funext x; unfold cN qN; rw [hT_ne (by omega), hT_ne (by omega)]
  have k2 : cL (hT h t) = qL h (h 224 36) := by funext x; unfold cL qL; rw [hT_ne (by omega), hT_ne (by omega)]
  have k3 : cH (hT h t) = qH h (h 224 36) := by funext x; unfold cH qH; rw [hT_ne (by omega), hT_ne (by omega)]
  unfold Wd
  rw [eS, eV, eN, eG, k1, k2, k3, hT_ne (show ¬ (224 = 224 ∧ 36 = 71) by omega), hT_ne (show ¬ (233 = 224 ∧ _ = 71) by omega)]
  exact ⟨by omega, b3, b4, b5⟩
theorem CB_cd {h h1 : sw_H} {t : Int} (e : ∀ a k, (a = 224 ∧ k = 36) ∨ (227 ≤ a ∧ a ≤ 248) → h1 a k = h a k) (k : CB h t) : CB h1 t := by
  obtain ⟨a1, a2, nd, la, hi, a3, a4, a5, a6, a7⟩ := k
  have el : lst h1 = lst h := by unfold lst; rw [e 224 36 (by omega), e 227 _ (by omega)]
  have CD : cdK (hT h t) (hT h1 t) := cdK_T (fun a k q => by rw [hT_ne (by omega)]; exact e a k q) hT_71
  unfold CB
  rw [el]
  exact ⟨a1, a2, nd, la, hi, a3, a4, a5, Wd_cd CD a6, Wds_cd CD a7⟩
/-- the look went through -/
theorem CB_of {h h1 : sw_H} (hC : mC h) (hJ : mI h) {t : Int} (T : thI h t) (e : ∀ a k, (a = 224 ∧ k = 36) ∨ (227 ≤ a ∧ a ≤ 248) → h1 a k = h a k) (e52 : h1 224 52 = h 224 36) {H U : Nat → Int} (L : LI h1 (60 * h 224 36 + h 233 (6 * h 224 36 + lst h).toNat) (fS (hT h t) (lst h)) (fV (hT h t) (lst h)) (wn h (lst h)).toNat H U) (hp : h1 224 54 = 0) (hn : h1 224 56 ≤ 3) (hh : 1 ≤ 3 + h1 224 53) : CB h t := by
  obtain ⟨t1, t2, t3, t4, t5, t6, t7⟩ := T
  obtain ⟨l1, l2, l3, l4, l5, l6, l7, l8, l9, l10, l11, l12, l13⟩ := L
  have eN : wn (hT h t) (lst h) = wn h (lst h) := by unfold wn; rw [hT_ne (by omega), hT_ne (by omega)]
  have eG : fG (hT h t) (lst h) = fG h (lst h) := by funext j; unfold fG; rw [hT_ne (by omega), hT_ne (by omega), hT_ne (by omega)]
  have k1 : cN (hT h t) = kN h1 := by funext x; unfold cN kN; rw [hT_ne (by omega), hT_ne (by omega), e52, e 235 _ (by omega)]
  have k2 : cL (hT h t) = kL h1 := by funext x; unfold cL kL; rw [hT_ne (by omega), hT_ne (by omega), e52, e 236 _ (by omega)]
  have k3 : cH (hT h t) = kH h1 := by funext x; unfold cH kH; rw [hT_ne (by omega), hT_ne (by omega), e52, e 237 _ (by omega)]
  refine ⟨t1, t2, h1 224 56, h1 224 53, h1 224 57, hn, hh, l8, ?_, Wds_T hC hJ t t2⟩
  unfold Wd
  rw [eN, eG, k1, k2, k3, hT_ne (show ¬ (224 = 224 ∧ 36 = 71) by omega), hT_ne (show ¬ (233 = 224 ∧ _ = 71) by omega)]
  refine ⟨t5, fun j hj => ?_, t7, l5, l6, l7, l8, H, U, l1, l2, l3.symm, by omega, l11, l12⟩
  obtain ⟨a1, -, a2, a3⟩ := t6 j hj
  exact ⟨a1, a2, a3⟩
theorem lkC_T {h h1 : sw_H} (hC : mC h) (hJ : mI h) (ht : h 224 71 = -1) {t : Int} (T : thI h t) (e : ∀ a k, (a = 224 ∧ k = 36) ∨ (227 ≤ a ∧ a ≤ 248) → h1 a k = h a k) (e52 : h1 224 52 = h 224 36) {j : Nat} (hj : j < (wn h (lst h)).toNat) : lkC h1 (fS (hT h t) (lst h) j) (fV (hT h t) (lst h) j) := by
  obtain ⟨t1, t2, t3, t4, t5, t6, t7⟩ := T
  obtain ⟨⟨a1, a2, a3, a4, a5⟩, a0, -, -⟩ := t6 j hj
  refine ⟨a1, a2, a3, fun _ => a0, fun q => ?_⟩
  have q4 := a4 q
  have hl' : lst h = h 227 (h 224 36).toNat - 1 := rfl
  obtain ⟨w1, w2, w3, w4, w5, w6⟩ := Wd_rng (Wd_of hC hJ ht (w := fV (hT h t) (lst h) j) q4.1 (by omega))
  have k1 : kN h1 = cN h := by funext x; unfold cN kN; rw [e52, e 235 _ (by omega)]
  have k2 : kL h1 = cL h := by funext x; unfold cL kL; rw [e52, e 236 _ (by omega)]
  have k3 : kH h1 = cH h := by funext x; unfold cH kH; rw [e52, e 237 _ (by omega)]
  rw [k1, k2, k3]
  exact ⟨by omega, by omega, by omega, by omega, by omega, by omega, by omega, by omega, by omega⟩
theorem LI_0 {h : sw_H} {f : Int} {s v : Nat → Int} (z3 : h 224 53 = 0) (z4 : h 224 54 = 0) (z5 : h 224 55 = 0) (z6 : h 224 56 = 0) (z7 : h 224 57 = 0) : LI h f s v 0 (fun _ => 0) (fun _ => 0) := by
  refine ⟨rfl, rfl, z3, z4, by omega, by omega, by omega, by omega, by rw [z5]; rfl, by omega, fun j hj => (show -(h 224 56) ≤ (0 : Int) ∧ (0 : Int) ≤ h 224 57 ∧ (0 : Int) ≤ 0 ∧ (0 : Int) ≤ 6 from ⟨by omega, by omega, by omega, by omega⟩), fun j hj => by omega, fun pre p r e => ?_⟩
  have e' : ([] : List Nat) = pre ++ p :: r := e
  cases pre <;> cases e'
theorem LI_53 {h : sw_H} {f : Int} {s v : Nat → Int} {i : Nat} {H U : Nat → Int} (L : LI h f s v i H U) : -6 ≤ h 224 53 ∧ h 224 53 ≤ 12 := by
  obtain ⟨l1, l2, l3, l4, l5, l6, l7, l8, l9, l10, l11, l12, l13⟩ := L
  have := l11 i (Nat.le_refl i)
  omega

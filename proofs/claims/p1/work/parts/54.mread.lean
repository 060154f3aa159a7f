-- ===== a WORD in the making =====
theorem tT_congr {s s' : Nat → Int} : ∀ (i : Nat), (∀ j, j < i → s' j = s j) → tT s' i = tT s i
  | 0, _ => rfl
  | i + 1, h => by
    have ih := tT_congr i (fun j hj => h j (by omega))
    simp only [tT]
    rw [ih, h i (by omega)]
theorem tT_gone {s : Nat → Int} {j p : Nat} {r : List Nat} (hs : s j = 4 ∨ s j = 5 ∨ s j = 7) (e : tT s j = p :: r) : ∀ i, j < i → p ∉ tT s i := by
  have hp := (tT_head e).1
  have hr : p ∉ r := by
    intro hm
    obtain ⟨pre, r2, e2⟩ := List.append_of_mem hm
    have h1 := (tT_head e).2.2
    have h2 := (tT_mem j (p :: pre) p r2 (by rw [e, e2]; rfl)).2.2
    have h3 := congrArg List.length e2
    rw [h1, ← h2, List.length_append, List.length_cons] at h3
    omega
  intro i
  induction i with
  | zero => intro h; omega
  | succ i ih =>
    intro hi
    by_cases q : i = j
    · subst q
      by_cases q4 : s i = 4
      · rw [tT_else q4, e, List.tail_cons]
        simp only [List.mem_cons, not_or]
        exact ⟨by omega, hr⟩
      · rw [tT_shut (by omega), e, List.tail_cons]
        exact hr
    · have := ih (by omega)
      by_cases q1 : s i = 3 ∨ s i = 6
      · rw [tT_open q1]
        simp only [List.mem_cons, not_or]
        exact ⟨by omega, this⟩
      · by_cases q2 : s i = 4
        · rw [tT_else q2]
          simp only [List.mem_cons, not_or]
          exact ⟨by omega, fun hm => this (List.mem_of_mem_tail hm)⟩
        · by_cases q3 : s i = 5 ∨ s i = 7
          · rw [tT_shut q3]
            exact fun hm => this (List.mem_of_mem_tail hm)
          · rw [tT_flat (by omega)]
            exact this
theorem tS_congr {s s' : Nat → Int} {j : Nat} (h : ∀ x, x ≤ j → s' x = s x) (k : tS s j) : tS s' j := by
  have hT := tT_congr (s := s) (s' := s') j (fun x hx => h x (by omega))
  have hj := h j (Nat.le_refl j)
  obtain ⟨k1, k2, k3, k4⟩ := k
  unfold tS
  rw [hT, hj]
  refine ⟨fun q => ?_, fun q => ?_, fun q => ?_, k4⟩
  · obtain ⟨p, r, e, hp⟩ := k1 q
    exact ⟨p, r, e, by rw [h p (by have := (tT_head e).1; omega)]; exact hp⟩
  · obtain ⟨p, r, e, hp⟩ := k2 q
    exact ⟨p, r, e, by rw [h p (by have := (tT_head e).1; omega)]; exact hp⟩
  · obtain ⟨p, r, e, hp⟩ := k3 q
    exact ⟨p, r, e, by rw [h p (by have := (tT_head e).1; omega)]; exact hp⟩
theorem tG_congr {s s' g g' : Nat → Int} {j : Nat} (h : ∀ x, x ≤ j → s' x = s x) (hg : s j = 4 ∨ s j = 5 ∨ s j = 7 → ∀ p r, tT s j = p :: r → g' p = g p ∧ (s j = 5 ∨ s j = 7 → g' j = g j)) (k : tG s g j) : tG s' g' j := by
  have hT := tT_congr (s := s) (s' := s') j (fun x hx => h x (by omega))
  have hj := h j (Nat.le_refl j)
  unfold tG at k ⊢
  rw [hT, hj]
  refine ⟨fun q p r e => ?_, fun q p r e => ?_⟩
  · rw [(hg (Or.inl q) p r e).1]; exact k.1 q p r e
  · have a := hg (Or.inr q) p r e
    rw [a.1, a.2 q]
    exact k.2 q p r e
theorem tL_congr {s s' v v' : Nat → Int} {cn cl ch cn' cl' ch' : Int → Int} {nd hi : Int} {H U : Nat → Int} {j : Nat} (h : ∀ x, x ≤ j → s' x = s x ∧ v' x = v x) (hc : s j = 2 → cn' (v j) = cn (v j) ∧ cl' (v j) = cl (v j) ∧ ch' (v j) = ch (v j)) (k : tL s v cn cl ch nd hi H U j) : tL s' v' cn' cl' ch' nd hi H U j := by
  have hT := tT_congr (s := s) (s' := s') j (fun x hx => (h x (by omega)).1)
  have hj := h j (Nat.le_refl j)
  obtain ⟨k0, k1, k2, k3, k4, k5, k6, k7⟩ := k
  unfold tL
  rw [hT, hj.1, hj.2]
  refine ⟨k0, k1, fun q => ?_, k3, k4, fun q => ?_, k6, k7⟩
  · have a := hc q
    rw [a.1, a.2.1, a.2.2]
    exact k2 q
  · have a := k5 q
    refine ⟨a.1, a.2.1, fun p r e => ?_⟩
    rw [(h p (by have := (tT_head e).1; omega)).1]
    exact a.2.2 p r e
def rF (h : sw_H) (r w : Int) : Int := 60 * r + h 233 (6 * r + w).toNat
def rN (h : sw_H) (r w : Int) : Int := h 234 (6 * r + w).toNat
def rS (h : sw_H) (r w : Int) : Nat → Int := fun j => h 240 (rF h r w + j).toNat
def rV (h : sw_H) (r w : Int) : Nat → Int := fun j => h 241 (rF h r w + j).toNat
def rG (h : sw_H) (r w : Int) : Nat → Int := fun j => h 243 (rF h r w + j).toNat - rF h r w
def qN (h : sw_H) (r c : Int) : Int := h 235 (6 * r + c).toNat
def qL (h : sw_H) (r c : Int) : Int := h 236 (6 * r + c).toNat
def qH (h : sw_H) (r c : Int) : Int := h 237 (6 * r + c).toNat
def WdB (h : sw_H) (r w : Int) : Prop := 0 ≤ h 233 (6 * r + w).toNat ∧ 0 ≤ rN h r w ∧ (∀ j : Nat, j < (rN h r w).toNat → iC (rS h r w j) (rV h r w j) w ∧ tS (rS h r w) j ∧ tG (rS h r w) (rG h r w) j) ∧ tT (rS h r w) (rN h r w).toNat = [] ∧ Sd (rS h r w) (rV h r w) (rN h r w).toNat (qN h r) (qL h r) (qH h r) (qN h r w) (qL h r w) (qH h r w)
/-- the WORDS ahead of w in bank r, their ITEMS ahead of X -/
def RBx (h : sw_H) (r w X : Int) : Prop := ∀ c, 0 ≤ c → c < w → h 233 (6 * r + c).toNat + rN h r c ≤ X ∧ WdB h r c
def Fr (h h' : sw_H) (r w X : Int) : Prop := (∀ a k : Nat, 233 ≤ a → a ≤ 237 → 6 * r ≤ k → (k : Int) < 6 * r + w → h' a k = h a k) ∧ (∀ a k : Nat, a = 240 ∨ a = 241 ∨ a = 243 → 60 * r ≤ k → (k : Int) < 60 * r + X → h' a k = h a k)
theorem WdB_frame {h h' : sw_H} {r w X c : Int} (hr : 0 ≤ r) (f : Fr h h' r w X) (hc0 : 0 ≤ c) (hcw : c < w) (hX : h 233 (6 * r + c).toNat + rN h r c ≤ X) (k : WdB h r c) : WdB h' r c := by
  have e3 : h' 233 (6 * r + c).toNat = h 233 (6 * r + c).toNat := f.1 233 _ (by omega) (by omega) (by omega) (by omega)
  have eN : rN h' r c = rN h r c := f.1 234 _ (by omega) (by omega) (by omega) (by omega)
  have eF : rF h' r c = rF h r c := by unfold rF; rw [e3]
  obtain ⟨k1, k2, k3, k4, k5⟩ := k
  have hF : rF h r c = 60 * r + h 233 (6 * r + c).toNat := rfl
  have eS : ∀ j : Nat, j < (rN h r c).toNat → rS h' r c j = rS h r c j := fun j hj => by
    unfold rS; rw [eF]; exact f.2 240 _ (by omega) (by omega) (by omega)
  have eV : ∀ j : Nat, j < (rN h r c).toNat → rV h' r c j = rV h r c j := fun j hj => by
    unfold rV; rw [eF]; exact f.2 241 _ (by omega) (by omega) (by omega)
  have eG : ∀ j : Nat, j < (rN h r c).toNat → rG h' r c j = rG h r c j := fun j hj => by
    unfold rG; rw [eF, f.2 243 _ (by omega) (by omega) (by omega)]
  have q235 : ∀ x, 0 ≤ x → x ≤ c → qN h' r x = qN h r x := fun x h0 h1 => f.1 235 _ (by omega) (by omega) (by omega) (by omega)
  have q236 : ∀ x, 0 ≤ x → x ≤ c → qL h' r x = qL h r x := fun x h0 h1 => f.1 236 _ (by omega) (by omega) (by omega) (by omega)
  have q237 : ∀ x, 0 ≤ x → x ≤ c → qH h' r x = qH h r x := fun x h0 h1 => f.1 237 _ (by omega) (by omega) (by omega) (by omega)
  unfold WdB
  rw [e3, eN, q235 c hc0 (Int.le_refl c), q236 c hc0 (Int.le_refl c), q237 c hc0 (Int.le_refl c)]
  refine ⟨k1, k2, fun j hj => ?_, ?_, ?_⟩
  · obtain ⟨a1, a2, a3⟩ := k3 j hj
    refine ⟨by rw [eS j hj, eV j hj]; exact a1, tS_congr (fun x hx => eS x (by omega)) a2, tG_congr (fun x hx => eS x (by omega)) (fun q p r' e => ?_) a3⟩
    have hp := (tT_head e).1
    exact ⟨eG p (by omega), fun _ => eG j hj⟩
  · rw [tT_congr _ (fun j hj => eS j hj)]; exact k4
  · obtain ⟨b1, b2, b3, b4, H, U, b5, b6, b7, b8, b9, b10⟩ := k5
    refine ⟨b1, b2, b3, b4, H, U, b5, b6, b7, b8, b9, fun j hj => ?_⟩
    refine tL_congr (fun x hx => ⟨eS x (by omega), eV x (by omega)⟩) (fun q2 => ?_) (b10 j hj)
    have hi := (k3 j hj).1.2.2.2.1 q2
    exact ⟨q235 _ hi.1 (by omega), q236 _ hi.1 (by omega), q237 _ hi.1 (by omega)⟩
theorem RBx_frame {h h' : sw_H} {r w X : Int} (hr : 0 ≤ r) (f : Fr h h' r w X) (k : RBx h r w X) : RBx h' r w X := by
  intro c c0 c1
  obtain ⟨a, b⟩ := k c c0 c1
  refine ⟨?_, WdB_frame hr f c0 c1 a b⟩
  have e3 : h' 233 (6 * r + c).toNat = h 233 (6 * r + c).toNat := f.1 233 _ (by omega) (by omega) (by omega) (by omega)
  have eN : rN h' r c = rN h r c := f.1 234 _ (by omega) (by omega) (by omega) (by omega)
  rw [e3, eN]
  exact a
/-- a WORD's ITEMS as far as they are read -/
def RI (h : sw_H) (r w : Int) (i : Nat) : Prop := h 224 52 = r ∧ h 234 (6 * r + w).toNat = i ∧ i ≤ 20 ∧ 0 ≤ h 233 (6 * r + w).toNat ∧ h 228 r.toNat = h 233 (6 * r + w).toNat + i ∧ h 228 r.toNat ≤ 60 ∧ (∀ j : Nat, j < i → iC (rS h r w j) (rV h r w j) w ∧ tS (rS h r w) j ∧ tG (rS h r w) (rG h r w) j) ∧ ∃ H U, LI h (rF h r w) (rS h r w) (rV h r w) i H U
theorem LI_congr {h h' : sw_H} {f : Int} {s v s' v' : Nat → Int} {i : Nat} {H U : Nat → Int} (e5 : ∀ k, 52 ≤ k → k ≤ 57 → h' 224 k = h 224 k) (ea : ∀ a k, 252 ≤ a → a ≤ 257 → h' a k = h a k) (ec : ∀ j, j < i → s j = 2 → kN h' (v j) = kN h (v j) ∧ kL h' (v j) = kL h (v j) ∧ kH h' (v j) = kH h (v j)) (es : ∀ j, j < i → s' j = s j ∧ v' j = v j) (k : LI h f s v i H U) : LI h' f s' v' i H U := by
  obtain ⟨l1, l2, l3, l4, l5, l6, l7, l8, l9, l10, l11, l12, l13⟩ := k
  have hT := tT_congr (s := s) (s' := s') i (fun x hx => (es x hx).1)
  have x3 := e5 53 (by omega) (by omega)
  have x4 := e5 54 (by omega) (by omega)
  have x5 := e5 55 (by omega) (by omega)
  have x6 := e5 56 (by omega) (by omega)
  have x7 := e5 57 (by omega) (by omega)
  unfold LI
  rw [x3, x4, x5, x6, x7, hT]
  refine ⟨l1, l2, l3, l4, l5, l6, l7, l8, l9, l10, l11, fun j hj => tL_congr (fun x hx => es x (by omega)) (fun q => ec j hj q) (l12 j hj), fun pre p r e => ?_⟩
  have hp := (tT_mem i pre p r e).1
  obtain ⟨k1, k2, k3, k4, k5⟩ := l13 pre p r e
  unfold LE
  rw [ea 253 _ (by omega) (by omega), ea 252 _ (by omega) (by omega), ea 254 _ (by omega) (by omega), ea 255 _ (by omega) (by omega), ea 256 _ (by omega) (by omega), ea 257 _ (by omega) (by omega), (es p hp).1]
  exact ⟨k1, k2, k3, k4, k5⟩
/-- the next ITEM's sort and argument are laid down -/
theorem RI_store {h h' : sw_H} {r w : Int} {i : Nat} {its arg : Int} (hr : 0 ≤ r ∧ r ≤ 1) (hw : 0 ≤ w ∧ w < 6) (k : RI h r w i) (hB : RBx h r w (h 233 (6 * r + w).toNat))
    (e5 : ∀ k, 52 ≤ k → k ≤ 57 → h' 224 k = h 224 k) (ea : ∀ a k, 252 ≤ a → a ≤ 257 → h' a k = h a k) (eb : ∀ a k, a = 233 ∨ a = 235 ∨ a = 236 ∨ a = 237 ∨ a = 243 → h' a k = h a k) (e0 : ∀ k : Nat, h' 240 k = if (k : Int) = 60 * r + h 233 (6 * r + w).toNat + i then its else h 240 k) (e1 : ∀ k : Nat, h' 241 k = if (k : Int) = 60 * r + h 233 (6 * r + w).toNat + i then arg else h 241 k)
    (o4 : h 224 55 ≤ 4) (hit : 0 ≤ its ∧ its ≤ 7 ∧ (its = 0 → 0 ≤ arg ∧ arg ≤ 14) ∧ (its = 1 → 0 ≤ arg) ∧ (its = 2 → 0 ≤ arg ∧ arg < w) ∧ (its = 6 → 1 ≤ arg ∧ arg ≤ 9)) (hop : (its = 3 ∨ its = 6 → h 224 55 ≤ 3) ∧ (its = 4 → 1 ≤ h 224 55 ∧ h 252 (h 224 55).toNat = 3) ∧ (its = 5 → 1 ≤ h 224 55 ∧ (h 252 (h 224 55).toNat = 3 ∨ h 252 (h 224 55).toNat = 4)) ∧ (its = 7 → 1 ≤ h 224 55 ∧ h 252 (h 224 55).toNat = 6)) :
    rF h' r w = rF h r w ∧ rS h' r w i = its ∧ rV h' r w i = arg ∧ (∀ j : Nat, j < i → iC (rS h' r w j) (rV h' r w j) w ∧ tS (rS h' r w) j ∧ tG (rS h' r w) (rG h' r w) j) ∧ (∃ H U, LI h' (rF h' r w) (rS h' r w) (rV h' r w) i H U) ∧ tS (rS h' r w) i ∧ lkC h' (rS h' r w i) (rV h' r w i) ∧ iC its arg w := by
  obtain ⟨k1, k2, k3, k4, k5, k6, k7, H, U, kL'⟩ := k
  have eF : rF h' r w = rF h r w := by unfold rF; rw [eb 233 _ (by omega)]
  have hF : rF h r w = 60 * r + h 233 (6 * r + w).toNat := rfl
  have sN : rS h' r w i = its := by unfold rS; rw [eF, e0, if_pos (by omega)]
  have vN : rV h' r w i = arg := by unfold rV; rw [eF, e1, if_pos (by omega)]
  have sO' : ∀ j : Nat, j < i → rS h' r w j = rS h r w j := fun j hj => by unfold rS; rw [eF, e0, if_neg (by omega)]
  have vO' : ∀ j : Nat, j < i → rV h' r w j = rV h r w j := fun j hj => by unfold rV; rw [eF, e1, if_neg (by omega)]
  have gO' : ∀ j : Nat, rG h' r w j = rG h r w j := fun j => by unfold rG; rw [eF, eb 243 _ (by omega)]
  have hT : tT (rS h' r w) i = tT (rS h r w) i := tT_congr i sO'
  have ks : kN h' = kN h ∧ kL h' = kL h ∧ kH h' = kH h := by
    refine ⟨?_, ?_, ?_⟩ <;> funext c
    · unfold kN; rw [e5 52 (by omega) (by omega), eb 235 _ (by omega)]
    · unfold kL; rw [e5 52 (by omega) (by omega), eb 236 _ (by omega)]
    · unfold kH; rw [e5 52 (by omega) (by omega), eb 237 _ (by omega)]
  have LI' : LI h' (rF h' r w) (rS h' r w) (rV h' r w) i H U := by
    rw [eF]
    exact LI_congr e5 ea (fun j _ _ => by rw [ks.1, ks.2.1, ks.2.2]; exact ⟨rfl, rfl, rfl⟩) (fun j hj => ⟨sO' j hj, vO' j hj⟩) kL'
  have head : 1 ≤ h 224 55 → ∃ p r', tT (rS h' r w) i = p :: r' ∧ rS h' r w p = h 252 (h 224 55).toNat := by
    intro h1
    have hl := kL'.2.2.2.2.2.2.2.2.1
    match e : tT (rS h r w) i, hl with
    | [], hl => simp only [List.length_nil] at hl; omega
    | p :: r', hl =>
      have hE := kL'.2.2.2.2.2.2.2.2.2.2.2.2 [] p r' e
      rw [List.length_cons] at hl
      have hp := (tT_head e).1
      refine ⟨p, r', by rw [hT, e], ?_⟩
      rw [sO' p hp, show (h 224 55).toNat = r'.length + 1 by omega]
      exact hE.2.1.symm
  refine ⟨eF, sN, vN, fun j hj => ?_, ⟨H, U, LI'⟩, ?_, ?_, ⟨hit.1, hit.2.1, hit.2.2.1, hit.2.2.2.2.1, hit.2.2.2.2.2⟩⟩
  · obtain ⟨a1, a2, a3⟩ := k7 j hj
    refine ⟨by rw [sO' j hj, vO' j hj]; exact a1, tS_congr (fun x hx => sO' x (by omega)) a2, tG_congr (fun x hx => sO' x (by omega)) (fun _ p r' e => ⟨gO' p, fun _ => gO' j⟩) a3⟩
  · unfold tS
    rw [sN]
    refine ⟨fun q => ?_, fun q => ?_, fun q => ?_, fun q => ?_⟩
    · have a := hop.2.1 q
      obtain ⟨p, r', e, hp⟩ := head a.1
      exact ⟨p, r', e, by rw [hp]; exact a.2⟩
    · have a := hop.2.2.1 q
      obtain ⟨p, r', e, hp⟩ := head a.1
      exact ⟨p, r', e, by rw [hp]; exact a.2⟩
    · have a := hop.2.2.2 q
      obtain ⟨p, r', e, hp⟩ := head a.1
      exact ⟨p, r', e, by rw [hp]; exact a.2⟩
    · have a := hop.1 q
      have hl := kL'.2.2.2.2.2.2.2.2.1
      rw [hT]
      omega
  · rw [sN, vN]
    refine ⟨hit.1, hit.2.1, hit.2.2.1, hit.2.2.2.1, fun q => ?_⟩
    have a := hit.2.2.2.2.1 q
    obtain ⟨-, b⟩ := hB arg a.1 a.2
    obtain ⟨-, b2, -, -, b5⟩ := b
    obtain ⟨c1, c2, c3, c4, H', U', d1, d2, d3, d4, d5, -⟩ := b5
    have dn := d5 (rN h r arg).toNat (Nat.le_refl _)
    rw [d3] at dn
    have eqs : kN h' arg = qN h r arg ∧ kL h' arg = qL h r arg ∧ kH h' arg = qH h r arg := by
      rw [ks.1, ks.2.1, ks.2.2]
      unfold kN kL kH qN qL qH
      rw [k1]
      exact ⟨rfl, rfl, rfl⟩
    rw [eqs.1, eqs.2.1, eqs.2.2]
    exact ⟨a.1, by omega, by omega, by omega, by omega, by omega, by omega, by omega, by omega⟩
/-- behind the look -/
theorem RI_after {hc h' : sw_H} {r w : Int} {i : Nat} {arg its : Int} (hr : 0 ≤ r ∧ r ≤ 1) (hw : 0 ≤ w ∧ w < 6) (hF0 : 0 ≤ hc 233 (6 * r + w).toNat ∧ hc 233 (6 * r + w).toNat + i + 1 ≤ 60)
    (st : ∀ j : Nat, j < i → iC (rS hc r w j) (rV hc r w j) w ∧ tS (rS hc r w) j ∧ tG (rS hc r w) (rG hc r w) j) (hS : tS (rS hc r w) i) (hi : iC its arg w) (sN : rS hc r w i = its) (vN : rV hc r w i = arg)
    (c1 : h' 224 52 = r) (c2 : h' 234 (6 * r + w).toNat = ((i + 1 : Nat) : Int)) (c3 : i + 1 ≤ 20) (c5 : h' 228 r.toNat = hc 233 (6 * r + w).toNat + ((i + 1 : Nat) : Int)) (ek : ∀ a k, a = 233 ∨ a = 240 ∨ a = 241 → h' a k = hc a k) (gp : GP hc h' (rF hc r w) (rS hc r w) i) (L : ∃ H U, LI h' (rF hc r w) (rS hc r w) (rV hc r w) (i + 1) H U) : RI h' r w (i + 1) := by
  have eF : rF h' r w = rF hc r w := by unfold rF; rw [ek 233 _ (by omega)]
  have hF : rF hc r w = 60 * r + hc 233 (6 * r + w).toNat := rfl
  have eS : rS h' r w = rS hc r w := by funext j; unfold rS; rw [eF, ek 240 _ (by omega)]
  have eV : rV h' r w = rV hc r w := by funext j; unfold rV; rw [eF, ek 241 _ (by omega)]
  obtain ⟨g1, g2, g3, -⟩ := gp
  have eG : ∀ j : Nat, j < i → (∀ p r', tT (rS hc r w) i = p :: r' → rS hc r w i = 4 ∨ rS hc r w i = 5 ∨ rS hc r w i = 7 → j ≠ p) → rG h' r w j = rG hc r w j := fun j hj hn => by
    unfold rG
    rw [eF, g1 _ (by omega) (fun p r' e q => by have := hn p r' e q; omega)]
  refine ⟨c1, c2, c3, by rw [ek 233 _ (by omega)]; omega, by rw [ek 233 _ (by omega)]; exact c5, by omega, fun j hj => ?_, ?_⟩
  · rw [eS, eV]
    by_cases q : j < i
    · obtain ⟨a1, a2, a3⟩ := st j q
      refine ⟨a1, a2, tG_congr (fun x hx => rfl) (fun q4 p r' e => ⟨eG p (by have := (tT_head e).1; omega) (fun p' r'' e' q' => ?_), fun q5 => eG j q (fun p' r'' e' q' => ?_)⟩) a3⟩
      · have := tT_gone q4 e i q
        rw [e'] at this
        simp only [List.mem_cons, not_or] at this
        exact this.1
      · have := (tT_head e').2.1
        intro hjp
        rw [← hjp] at this
        omega
    · have e : j = i := by omega
      rw [e, sN, vN]
      refine ⟨hi, hS, ?_, ?_⟩
      · intro q p r' e'
        have hp := (tT_head e').1
        have := g2 p r' e' (Or.inl q)
        unfold rG
        rw [eF, this]
        omega
      · intro q p r' e'
        have hp := (tT_head e').1
        have a := g2 p r' e' (Or.inr q)
        have b := g3 p r' e' q
        unfold rG
        rw [eF, a, b]
        constructor <;> omega
  · rw [eF, eS, eV]
    exact L

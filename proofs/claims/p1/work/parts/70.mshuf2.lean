-- ===== the least weight from each stack to one, a cheapest row =====
def WG (h : sw_H) : Prop := ∀ t : Nat, t < 7 → 1 ≤ h 273 t ∧ h 273 t ≤ 99001
/-- what holds of the least weights at every time -/
def LV (h : sw_H) (to : Int) : Prop := (∀ k : Nat, (k : Int) < h 224 79 → 0 ≤ h 271 k ∧ h 271 k ≤ 100000000 ∧ (h 271 k = 0 ↔ (k : Int) = to)) ∧ (∀ k : Nat, (k : Int) < h 224 79 → h 271 k = 100000000 ∨ (k : Int) = to ∨ ∃ t : Nat, t < 7 ∧ 0 ≤ h 272 (7 * k + t) ∧ h 271 (h 272 (7 * k + t)).toNat + h 273 t ≤ h 271 k)
/-- nothing is less by stack k -/
def FXk (h : sw_H) (k : Nat) : Prop := ∀ t : Nat, t < 7 → 0 ≤ h 272 (7 * k + t) → h 271 k ≤ h 271 (h 272 (7 * k + t)).toNat + h 273 t
def sumL (f : Nat → Int) : Nat → Int
  | 0 => 0
  | n + 1 => sumL f n + f n
theorem sumL_eq {f g : Nat → Int} : ∀ n : Nat, (∀ k, k < n → f k = g k) → sumL f n = sumL g n
  | 0, _ => rfl
  | n + 1, h => by
    have ih := sumL_eq n (fun k hk => h k (by omega))
    simp only [sumL]
    rw [ih, h n (by omega)]
theorem sumL_dec {f g : Nat → Int} {j : Nat} (hj : g j < f j) : ∀ n : Nat, j < n → (∀ k, k < n → k ≠ j → g k = f k) → sumL g n < sumL f n
  | 0, hn, _ => by omega
  | n + 1, hn, h => by
    simp only [sumL]
    by_cases q : j = n
    · subst q
      rw [sumL_eq j (fun k hk => h k (by omega) (by omega))]
      omega
    · have ih := sumL_dec hj n (by omega) (fun k hk hkj => h k (by omega) hkj)
      rw [h n (by omega) (by omega)]
      omega
theorem sumL_nn {f : Nat → Int} : ∀ n : Nat, (∀ k, k < n → 0 ≤ f k) → 0 ≤ sumL f n
  | 0, _ => Int.le_refl 0
  | n + 1, h => by
    have ih := sumL_nn n (fun k hk => h k (by omega))
    have := h n (by omega)
    simp only [sumL]
    omega
theorem LV_rng {h : sw_H} {to : Int} (L : LV h to) {k : Int} (hk : 0 ≤ k ∧ k < h 224 79) : 0 ≤ h 271 k.toNat ∧ h 271 k.toNat ≤ 100000000 := by
  have := L.1 k.toNat (by omega)
  exact ⟨this.1, this.2.1⟩
/-- one weight becomes less -/
theorem LV_step {h h1 : sw_H} {s to K T : Int} (p : SP h s 364 0) (W : WG h) (L : LV h to) (hK : 0 ≤ K ∧ K < h 224 79) (hT : 0 ≤ T ∧ T < 7) (ha : 0 ≤ h 272 (7 * K + T).toNat) (hl : h 271 (h 272 (7 * K + T).toNat).toNat + h 273 T.toNat < h 271 K.toNat) (e9 : h1 224 79 = h 224 79) (e2 : ∀ k, h1 272 k = h 272 k) (e3 : ∀ k, h1 273 k = h 273 k) (e1 : ∀ k : Nat, h1 271 k = if (k : Int) = K then h 271 (h 272 (7 * K + T).toNat).toNat + h 273 T.toNat else h 271 k) : LV h1 to ∧ sumL (h1 271) (h 224 79).toNat < sumL (h 271) (h 224 79).toNat := by
  have hr := SP_rng p hK hT
  have la := LV_rng L (k := h 272 (7 * K + T).toNat) (by omega)
  have wT := W T.toNat (by omega)
  have lK := L.1 K.toNat (by omega)
  have hle : ∀ k : Nat, h1 271 k ≤ h 271 k := fun k => by
    rw [e1]
    by_cases q : (k : Int) = K
    · rw [if_pos q, show k = K.toNat by omega]; omega
    · rw [if_neg q]; exact Int.le_refl _
  refine ⟨⟨fun k hk => ?_, fun k hk => ?_⟩, ?_⟩
  · rw [e1]
    by_cases q : (k : Int) = K
    · rw [if_pos q]
      refine ⟨by omega, by omega, ⟨fun q2 => by omega, fun q2 => ?_⟩⟩
      have := lK.2.2.mpr (by omega)
      omega
    · rw [if_neg q]; exact L.1 k (by omega)
  · by_cases q : (k : Int) = K
    · right; right
      refine ⟨T.toNat, by omega, ?_, ?_⟩
      · rw [e2, show 7 * k + T.toNat = (7 * K + T).toNat by omega]; exact ha
      · rw [e2, e3, show 7 * k + T.toNat = (7 * K + T).toNat by omega, e1 k, if_pos q]
        have := hle (h 272 (7 * K + T).toNat).toNat
        omega
    · have a := L.2 k (by omega)
      rw [e1 k, if_neg q]
      rcases a with a | a | ⟨t, a1, a2, a3⟩
      · exact Or.inl a
      · exact Or.inr (Or.inl a)
      · refine Or.inr (Or.inr ⟨t, a1, by rw [e2]; exact a2, ?_⟩)
        rw [e2, e3]
        have := hle (h 272 (7 * k + t)).toNat
        omega
  · refine sumL_dec (j := K.toNat) ?_ _ (by omega) (fun k hk hkj => ?_)
    · rw [e1, if_pos (by omega)]; exact hl
    · rw [e1, if_neg (by omega)]
theorem LV_eq {h h1 : sw_H} {to : Int} (e9 : h1 224 79 = h 224 79) (e1 : ∀ k, h1 271 k = h 271 k) (e2 : ∀ k, h1 272 k = h 272 k) (e3 : ∀ k, h1 273 k = h 273 k) (L : LV h to) : LV h1 to := by
  refine ⟨fun k hk => by rw [e1]; exact L.1 k (by omega), fun k hk => ?_⟩
  rw [e1]
  rcases L.2 k (by omega) with a | a | ⟨t, a1, a2, a3⟩
  · exact Or.inl a
  · exact Or.inr (Or.inl a)
  · exact Or.inr (Or.inr ⟨t, a1, by rw [e2]; exact a2, by rw [e2, e3, e1]; exact a3⟩)
theorem FXk_eq {h h1 : sw_H} {k : Nat} (e1 : ∀ k, h1 271 k = h 271 k) (e2 : ∀ k, h1 272 k = h 272 k) (e3 : ∀ k, h1 273 k = h 273 k) (F : FXk h k) : FXk h1 k := by
  intro t ht ha
  rw [e2] at ha ⊢
  rw [e1, e1, e3]
  exact F t ht ha
theorem WG_eq {h h1 : sw_H} (e3 : ∀ k, h1 273 k = h 273 k) (W : WG h) : WG h1 := fun t ht => by rw [e3]; exact W t ht
theorem WG_of {h : sw_H} (W : WG h) {t : Int} (ht : 0 ≤ t ∧ t < 7) : 1 ≤ h 273 t.toNat ∧ h 273 t.toNat ≤ 99001 := W t.toNat (by omega)
/-- all is told: rows lead from stack to stack, no weight can be less -/
def RW (h : sw_H) (s to : Int) : Prop := SP h s 364 0 ∧ WG h ∧ LV h to ∧ (∀ k : Nat, (k : Int) < h 224 79 → FXk h k) ∧ (s = 0 ∨ s = 1 ∨ s = 12 ∨ s = 123) ∧ h 271 0 < 100000000
theorem RW_path {h : sw_H} {s to : Int} (R : RW h s to) : ∀ p : List Nat, pvd s.toNat p → ∃ k : Nat, (k : Int) < h 224 79 ∧ h 270 k = ((pth s.toNat p : Nat) : Int) ∧ h 271 0 ≤ ((wt (fun t => (h 273 t).toNat) p : Nat) : Int) + h 271 k
  | [], _ => by
    refine ⟨0, by have := R.1.1; omega, ?_, ?_⟩
    · have e := R.1.2.2.1
      have hs := R.2.2.2.2.1
      rw [e]
      show s = ((s.toNat : Nat) : Int)
      omega
    · simp only [wt]
      omega
  | t :: p, hp => by
    obtain ⟨hp1, ht, hne⟩ := hp
    obtain ⟨k, hk, e, hw⟩ := RW_path R p hp1
    have hV := V_rng (R.1.2.2.2.1 k hk)
    have eT : (h 270 k).toNat = pth s.toNat p := by omega
    have eI : shI (h 270 k) t = ((shN (pth s.toNat p) t : Nat) : Int) := by
      unfold shI
      rw [eT, show ((t : Nat) : Int).toNat = t by omega, if_neg hne]
    have hA := (R.1.2.2.2.2.2 k t ht (by have := R.1.2.1; omega) hk).2 (by rw [eI]; omega)
    have hF := R.2.2.2.1 k hk t ht hA.1
    have w1 := R.2.1 t ht
    refine ⟨(h 272 (7 * k + t)).toNat, by omega, by rw [hA.2.2, eI]; rfl, ?_⟩
    simp only [wt]
    omega
theorem tb_s {s : Int} (h : s = 0 ∨ s = 1 ∨ s = 12 ∨ s = 123) : ∃ tb, ckP tb s.toNat := by
  rcases h with rfl | rfl | rfl | rfl
  · exact ⟨tb_0, tb_0_ok⟩
  · exact ⟨tb_1, tb_1_ok⟩
  · exact ⟨tb_2, tb_2_ok⟩
  · exact ⟨tb_3, tb_3_ok⟩
/-- a row that is on the way to the cheapest end is short -/
theorem RW_short {h : sw_H} {s to : Int} (R : RW h s to) {p : List Nat} (hp : pvd s.toNat p) {k : Nat} (hk : (k : Int) < h 224 79) (e : h 270 k = ((pth s.toNat p : Nat) : Int)) (hw : ((wt (fun t => (h 273 t).toNat) p : Nat) : Int) + h 271 k = h 271 0) : p.length ≤ 15 := by
  obtain ⟨tb, ok⟩ := tb_s R.2.2.2.2.1
  refine opt_len ok (fun t => (h 273 t).toNat) (fun t ht => by have := R.2.1 t ht; omega) p hp (fun q hq eq => ?_)
  obtain ⟨k2, hk2, e2, hw2⟩ := RW_path R q hq
  have : k2 = k := by
    by_cases c1 : k2 < k
    · exact absurd (by rw [e2, e, eq]) (R.1.2.2.2.2.1 k2 k c1 hk)
    · by_cases c2 : k < k2
      · exact absurd (by rw [e2, e, eq]) (R.1.2.2.2.2.1 k k2 c2 hk2)
      · omega
  subst this
  omega
/-- the next shuffle of a cheapest row -/
theorem RW_next {h : sw_H} {s to : Int} (R : RW h s to) {k : Int} (hk : 0 ≤ k ∧ k < h 224 79) (h0 : 0 < h 271 k.toNat) (h1 : h 271 k.toNat < 100000000) : ∃ t : Int, 0 ≤ t ∧ t < 7 ∧ 0 ≤ h 272 (7 * k + t).toNat ∧ h 271 (h 272 (7 * k + t).toNat).toNat + h 273 t.toNat = h 271 k.toNat := by
  have hL := R.2.2.1
  have a1 := hL.1 k.toNat (by omega)
  rcases hL.2 k.toNat (by omega) with a | a | ⟨t, b1, b2, b3⟩
  · omega
  · have := a1.2.2.mpr a; omega
  · refine ⟨(t : Int), by omega, by omega, ?_, ?_⟩
    · rw [show (7 * k + (t : Int)).toNat = 7 * k.toNat + t by omega]; exact b2
    · have f := R.2.2.2.1 k.toNat (by omega) t b1 b2
      rw [show (7 * k + (t : Int)).toNat = 7 * k.toNat + t by omega, show ((t : Nat) : Int).toNat = t by omega]
      omega
/-- one more shuffle on the way -/
theorem RW_more {h : sw_H} {s to : Int} (R : RW h s to) {p : List Nat} (hp : pvd s.toNat p) {k t : Int} (hk : 0 ≤ k ∧ k < h 224 79) (e : h 270 k.toNat = ((pth s.toNat p : Nat) : Int)) (hw : ((wt (fun t => (h 273 t).toNat) p : Nat) : Int) + h 271 k.toNat = h 271 0) (ht : 0 ≤ t ∧ t < 7) (ha : 0 ≤ h 272 (7 * k + t).toNat) (hl : h 271 (h 272 (7 * k + t).toNat).toNat + h 273 t.toNat = h 271 k.toNat) : pvd s.toNat (t.toNat :: p) ∧ h 272 (7 * k + t).toNat < h 224 79 ∧ h 270 (h 272 (7 * k + t).toNat).toNat = ((pth s.toNat (t.toNat :: p) : Nat) : Int) ∧ ((wt (fun t => (h 273 t).toNat) (t.toNat :: p) : Nat) : Int) + h 271 (h 272 (7 * k + t).toNat).toNat = h 271 0 := by
  have hA := SP_af R.1 hk ht
  have hV := V_rng (R.1.2.2.2.1 k.toNat (by omega))
  have eT : (h 270 k.toNat).toNat = pth s.toNat p := by omega
  have w1 := WG_of R.2.1 ht
  have hne : shI (h 270 k.toNat) t ≠ -1 := fun q => by have := hA.1 q; omega
  have hne2 : shN (pth s.toNat p) t.toNat ≠ 100000 := by
    intro q
    apply hne
    unfold shI
    rw [eT, if_pos q]
  have eI : shI (h 270 k.toNat) t = ((shN (pth s.toNat p) t.toNat : Nat) : Int) := by
    unfold shI
    rw [eT, if_neg hne2]
  have hB := hA.2 hne
  refine ⟨⟨hp, by omega, hne2⟩, hB.2.1, by rw [hB.2.2, eI]; rfl, ?_⟩
  simp only [wt]
  omega

-- ===== a cheapest row of SHUFFLES is short =====
theorem dg_E (t : Nat) (ht : t < 7) : dg 250539758 t = 14 := by
  have : t = 0 ∨ t = 1 ∨ t = 2 ∨ t = 3 ∨ t = 4 ∨ t = 5 ∨ t = 6 := by omega
  rcases this with rfl | rfl | rfl | rfl | rfl | rfl | rfl <;> decide
theorem dg_0 (t : Nat) : dg 0 t = 0 := by simp [dg]
theorem sum7_dg (d : Nat) : sum7 d = dg d 0 + dg d 1 + dg d 2 + dg d 3 + dg d 4 + dg d 5 + dg d 6 := by simp [sum7, dg]
theorem ckT_i {tb : List pR} {s i : Nat} (h : ckP tb s) (hi : i < tb.length) : ckI tb i = true := by
  exact h.2 i hi
theorem ckI_k {tb : List pR} {i k : Nat} (h : ckI tb i = true) (hk : k < (gr tb i).2.1) : (∀ t, t < 7 → dg (lab (gr tb i) k) t ≤ 14) ∧ sum7 (lab (gr tb i) k) ≤ 15 ∧ ckR tb i (gr tb i) k = true := by
  simp only [ckI, Bool.and_eq_true] at h
  have := List.all_eq_true.mp h.2 k (List.mem_range.mpr hk)
  simp only [Bool.and_eq_true] at this
  refine ⟨fun t ht => ?_, Nat.le_of_ble_eq_true this.1.2, this.2⟩
  have a := le7_of 7 _ _ this.1.1 t ht
  rw [dg_E t ht] at a
  exact a
theorem par_A {tb : List pR} {s : Nat} (h : ckP tb s) : ∀ p : List Nat, pvd s p → ∃ i k, i < tb.length ∧ k < (gr tb i).2.1 ∧ (gr tb i).1 = pth s p ∧ ∀ t, t < 7 → dg (lab (gr tb i) k) t ≤ p.count t
  | [], _ => by
    have h' := h.1
    simp only [ckH, Bool.and_eq_true] at h'
    refine ⟨0, 0, ?_, ?_, Nat.eq_of_beq_eq_true h'.1.1.1, fun t _ => ?_⟩
    · have := Nat.le_of_ble_eq_true h'.2; omega
    · have := Nat.le_of_ble_eq_true h'.1.1.2; omega
    · rw [Nat.eq_of_beq_eq_true h'.1.2, dg_0]
      exact Nat.zero_le _
  | t :: p, hp => by
    obtain ⟨hp1, ht, hne⟩ := hp
    obtain ⟨i, k, hi, hk, hv, hd⟩ := par_A h p hp1
    have hI := ckT_i h hi
    have hI' := hI
    simp only [ckI, Bool.and_eq_true] at hI'
    have hF := List.all_eq_true.mp hI'.1 t (List.mem_range.mpr ht)
    rw [← hv] at hne
    simp only [ckF, Bool.or_eq_true, Bool.and_eq_true] at hF
    rcases hF with hF | hF
    · exact absurd (Nat.eq_of_beq_eq_true hF) hne
    · have hk' := List.all_eq_true.mp hF.2 k (List.mem_range.mpr hk)
      simp only [Bool.and_eq_true] at hk'
      refine ⟨nxt (gr tb i) t, ptr (gr tb i) k t, ?_, ?_, ?_, fun u hu => ?_⟩
      · have := Nat.le_of_ble_eq_true hF.1.1; omega
      · have := Nat.le_of_ble_eq_true hk'.1; omega
      · rw [Nat.eq_of_beq_eq_true hF.1.2, hv]; rfl
      · have a := le7_of 7 _ _ hk'.2 u hu
        rw [dg_add t _ ((ckI_k hI hk).1 t ht) u] at a
        have b := hd u hu
        rw [List.count_cons]
        by_cases q : u = t
        · rw [if_pos q] at a
          rw [if_pos (by simp [q])]
          omega
        · rw [if_neg q] at a
          omega
theorem par_B {tb : List pR} {s : Nat} (h : ckP tb s) : ∀ (N i k : Nat), i < tb.length → k < (gr tb i).2.1 → sum7 (lab (gr tb i) k) ≤ N → ∃ p : List Nat, pvd s p ∧ pth s p = (gr tb i).1 ∧ ∀ t, t < 7 → p.count t ≤ dg (lab (gr tb i) k) t := by
  intro N
  induction N with
  | zero =>
    intro i k hi hk hs
    have hR := (ckI_k (ckT_i h hi) hk).2.2
    simp only [ckR, Bool.or_eq_true, Bool.and_eq_true] at hR
    rcases hR with hR | hR
    · have e0 := Nat.eq_of_beq_eq_true hR.1
      subst e0
      have h' := h.1
      simp only [ckH, Bool.and_eq_true] at h'
      exact ⟨[], trivial, (Nat.eq_of_beq_eq_true h'.1.1.1).symm, fun t _ => by simp⟩
    · exfalso
      obtain ⟨⟨⟨⟨⟨r1, r2⟩, r3⟩, r4⟩, r5⟩, r6⟩ := hR
      have r1' := Nat.le_of_ble_eq_true r1
      have r2' := Nat.le_of_ble_eq_true r2
      have r3' := Nat.le_of_ble_eq_true r3
      have k14 := (ckI_k (ckT_i h (show prd (gr tb i) k % 256 < tb.length by omega)) (show prd (gr tb i) k / 256 % 256 < _ by omega)).1
      have a := le7_of 7 _ _ r6 (prd (gr tb i) k / 65536) (by omega)
      rw [dg_add _ _ (k14 _ (by omega)), if_pos rfl] at a
      rw [sum7_dg] at hs
      have : prd (gr tb i) k / 65536 = 0 ∨ prd (gr tb i) k / 65536 = 1 ∨ prd (gr tb i) k / 65536 = 2 ∨ prd (gr tb i) k / 65536 = 3 ∨ prd (gr tb i) k / 65536 = 4 ∨ prd (gr tb i) k / 65536 = 5 ∨ prd (gr tb i) k / 65536 = 6 := by omega
      rcases this with q | q | q | q | q | q | q <;> (rw [q] at a; omega)
  | succ N ih =>
    intro i k hi hk hs
    have hR := (ckI_k (ckT_i h hi) hk).2.2
    simp only [ckR, Bool.or_eq_true, Bool.and_eq_true] at hR
    rcases hR with hR | hR
    · have e0 := Nat.eq_of_beq_eq_true hR.1
      subst e0
      have h' := h.1
      simp only [ckH, Bool.and_eq_true] at h'
      exact ⟨[], trivial, (Nat.eq_of_beq_eq_true h'.1.1.1).symm, fun t _ => by simp⟩
    · obtain ⟨⟨⟨⟨⟨r1, r2⟩, r3⟩, r4⟩, r5⟩, r6⟩ := hR
      have r1' := Nat.le_of_ble_eq_true r1
      have r2' := Nat.le_of_ble_eq_true r2
      have r3' := Nat.le_of_ble_eq_true r3
      generalize hq : prd (gr tb i) k = q at *
      have hi2 : q % 256 < tb.length := by omega
      have hk2 : q / 256 % 256 < (gr tb (q % 256)).2.1 := by omega
      have k14 := (ckI_k (ckT_i h hi2) hk2).1
      have a : ∀ u, u < 7 → (if u = q / 65536 then dg (lab (gr tb (q % 256)) (q / 256 % 256)) u + 1 else dg (lab (gr tb (q % 256)) (q / 256 % 256)) u) ≤ dg (lab (gr tb i) k) u := fun u hu => by
        have := le7_of 7 _ _ r6 u hu
        rw [dg_add _ _ (k14 _ (by omega))] at this
        exact this
      have hlt : sum7 (lab (gr tb (q % 256)) (q / 256 % 256)) ≤ N := by
        rw [sum7_dg] at hs ⊢
        have a0 := a 0 (by omega)
        have a1 := a 1 (by omega)
        have a2 := a 2 (by omega)
        have a3 := a 3 (by omega)
        have a4 := a 4 (by omega)
        have a5 := a 5 (by omega)
        have a6 := a 6 (by omega)
        have : q / 65536 = 0 ∨ q / 65536 = 1 ∨ q / 65536 = 2 ∨ q / 65536 = 3 ∨ q / 65536 = 4 ∨ q / 65536 = 5 ∨ q / 65536 = 6 := by omega
        rcases this with e | e | e | e | e | e | e <;> (rw [e] at a0 a1 a2 a3 a4 a5 a6; simp at a0 a1 a2 a3 a4 a5 a6; omega)
      obtain ⟨p, b1, b2, b3⟩ := ih (q % 256) (q / 256 % 256) hi2 hk2 hlt
      have hne : ¬ shN (gr tb (q % 256)).1 (q / 65536) = 100000 := by
        intro e
        rw [e] at r4
        simp at r4
      refine ⟨q / 65536 :: p, ⟨b1, by omega, by rw [b2]; exact hne⟩, ?_, fun u hu => ?_⟩
      · show shN (pth s p) (q / 65536) = _
        rw [b2]
        exact Nat.eq_of_beq_eq_true r5
      · have c := b3 u hu
        have d := a u hu
        rw [List.count_cons]
        by_cases e : u = q / 65536
        · rw [if_pos e] at d
          rw [if_pos (by simp [e])]
          omega
        · rw [if_neg e] at d
          rw [if_neg (by simp; omega)]
          omega
def wt (w : Nat → Nat) : List Nat → Nat
  | [] => 0
  | t :: p => w t + wt w p
theorem wt_count (w : Nat → Nat) (s : Nat) : ∀ p : List Nat, pvd s p → wt w p = w 0 * p.count 0 + w 1 * p.count 1 + w 2 * p.count 2 + w 3 * p.count 3 + w 4 * p.count 4 + w 5 * p.count 5 + w 6 * p.count 6
  | [], _ => by simp [wt]
  | t :: p, h => by
    have ih := wt_count w s p h.1
    have ht := h.2.1
    simp only [wt, List.count_cons]
    rw [ih]
    have : t = 0 ∨ t = 1 ∨ t = 2 ∨ t = 3 ∨ t = 4 ∨ t = 5 ∨ t = 6 := by omega
    rcases this with rfl | rfl | rfl | rfl | rfl | rfl | rfl <;> (simp [Nat.mul_add]; omega)
theorem len_count (s : Nat) : ∀ p : List Nat, pvd s p → p.length = p.count 0 + p.count 1 + p.count 2 + p.count 3 + p.count 4 + p.count 5 + p.count 6
  | [], _ => by simp
  | t :: p, h => by
    have ih := len_count s p h.1
    have ht := h.2.1
    simp only [List.length_cons, List.count_cons]
    rw [ih]
    have : t = 0 ∨ t = 1 ∨ t = 2 ∨ t = 3 ∨ t = 4 ∨ t = 5 ∨ t = 6 := by omega
    rcases this with rfl | rfl | rfl | rfl | rfl | rfl | rfl <;> (simp; omega)
theorem mul_gap {w c d : Nat} (hw : 1 ≤ w) (h : d ≤ c) : w * d + (c - d) ≤ w * c := by
  obtain ⟨e, rfl⟩ := Nat.exists_eq_add_of_le h
  rw [Nat.mul_add, Nat.add_sub_cancel_left]
  have : 1 * e ≤ w * e := Nat.mul_le_mul_right e hw
  omega
theorem opt_len {tb : List pR} {s : Nat} (h : ckP tb s) (w : Nat → Nat) (hw : ∀ t, t < 7 → 1 ≤ w t) (p : List Nat) (hp : pvd s p) (hopt : ∀ q, pvd s q → pth s q = pth s p → wt w p ≤ wt w q) : p.length ≤ 15 := by
  obtain ⟨i, k, hi, hk, hv, hd⟩ := par_A h p hp
  obtain ⟨q, q1, q2, q3⟩ := par_B h _ i k hi hk (Nat.le_refl _)
  have hs := (ckI_k (ckT_i h hi) hk).2.1
  rw [sum7_dg] at hs
  have ho := hopt q q1 (by rw [q2, hv])
  rw [wt_count w s p hp, wt_count w s q q1] at ho
  rw [len_count s p hp]
  have g : ∀ t, t < 7 → w t * q.count t + (p.count t - q.count t) ≤ w t * p.count t ∧ q.count t ≤ dg (lab (gr tb i) k) t ∧ q.count t ≤ p.count t := fun t ht => by
    have a := q3 t ht
    have b := hd t ht
    exact ⟨mul_gap (hw t ht) (by omega), a, by omega⟩
  have g0 := g 0 (by omega)
  have g1 := g 1 (by omega)
  have g2 := g 2 (by omega)
  have g3 := g 3 (by omega)
  have g4 := g 4 (by omega)
  have g5 := g 5 (by omega)
  have g6 := g 6 (by omega)
  generalize w 0 * q.count 0 = a0 at *
  generalize w 1 * q.count 1 = a1 at *
  generalize w 2 * q.count 2 = a2 at *
  generalize w 3 * q.count 3 = a3 at *
  generalize w 4 * q.count 4 = a4 at *
  generalize w 5 * q.count 5 = a5 at *
  generalize w 6 * q.count 6 = a6 at *
  generalize w 0 * p.count 0 = b0 at *
  generalize w 1 * p.count 1 = b1 at *
  generalize w 2 * p.count 2 = b2 at *
  generalize w 3 * p.count 3 = b3 at *
  generalize w 4 * p.count 4 = b4 at *
  generalize w 5 * p.count 5 = b5 at *
  generalize w 6 * p.count 6 = b6 at *
  omega

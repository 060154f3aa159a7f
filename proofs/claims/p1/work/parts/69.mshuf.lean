-- ===== the stacks of SHUFFLES =====
def vE6 : Nat → Nat → Nat
  | 0, _ => 0
  | f + 1, i => if i = 0 then 0 else 10 * vE6 f ((i - 1) / 3) + ((i - 1) % 3 + 1)
def vE (i : Nat) : Nat := vE6 6 i
def vR6 : Nat → Nat → Nat
  | 0, _ => 0
  | f + 1, v => if v = 0 then 0 else 3 * vR6 f (v / 10) + v % 10
def vR (v : Nat) : Nat := vR6 6 v
def fo (g : Nat → Int) : Nat → Int
  | 0 => 0
  | k + 1 => 10 * fo g k + g k
def dgt (v n : Int) (j : Nat) : Int := (v.tdiv (pw 10 (n - 1 - (j : Int)).toNat)).tmod 10
def chk (i t : Nat) : Bool :=
  let v : Int := ((vE i : Nat) : Int)
  let n := dgs v
  let m := n - tk t + ld t
  let g := shC t n (dgt v n)
  let u := shN (vE i) t
  decide (0 ≤ v ∧ v ≤ 99999 ∧ 0 ≤ n ∧ n ≤ 5) && Nat.beq (vR (vE i)) i &&
  (if n < tk t ∨ 5 < m then Nat.beq u 100000
   else !(Nat.beq u 100000) && decide (fo g m.toNat = ((u : Nat) : Int)) && Nat.blt (vR u) 364 && Nat.beq (vE (vR u)) u && (List.range m.toNat).all (fun k => decide (0 ≤ g k ∧ g k ≤ 9 ∧ 0 ≤ fo g k ∧ fo g k ≤ 99999)))
set_option maxRecDepth 100000 in
theorem chk_all : (List.range 364).all (fun i => (List.range 7).all (fun t => chk i t)) = true := by decide +kernel
theorem chk_of {i t : Nat} (hi : i < 364) (ht : t < 7) : chk i t = true := List.all_eq_true.mp (List.all_eq_true.mp chk_all i (List.mem_range.mpr hi)) t (List.mem_range.mpr ht)
/-- a stack of at most five cells, each 1 to 3 -/
def V (v : Int) : Prop := ∃ i : Nat, i < 364 ∧ v = ((vE i : Nat) : Int)
/-- a stack behind a shuffle -/
def shI (v t : Int) : Int := if shN v.toNat t.toNat = 100000 then -1 else ((shN v.toNat t.toNat : Nat) : Int)
theorem V_rng {v : Int} (h : V v) : 0 ≤ v ∧ v ≤ 99999 ∧ 0 ≤ dgs v ∧ dgs v ≤ 5 := by
  obtain ⟨i, hi, rfl⟩ := h
  have c := chk_of hi (t := 0) (by decide)
  simp only [chk, Bool.and_eq_true, decide_eq_true_eq] at c
  exact c.1.1
theorem V_R {v : Int} (h : V v) : vR v.toNat < 364 ∧ v = ((vE (vR v.toNat) : Nat) : Int) := by
  obtain ⟨i, hi, rfl⟩ := h
  have c := chk_of hi (t := 0) (by decide)
  simp only [chk, Bool.and_eq_true, decide_eq_true_eq] at c
  have e := Nat.eq_of_beq_eq_true c.1.2
  rw [show ((vE i : Nat) : Int).toNat = vE i by omega, e]
  exact ⟨hi, rfl⟩
theorem shI_bad {v t : Int} (hv : V v) (ht : 0 ≤ t ∧ t ≤ 6) (hc : dgs v < tk t ∨ 5 < dgs v - tk t + ld t) : shI v t = -1 := by
  obtain ⟨i, hi, rfl⟩ := hv
  have c := chk_of hi (t := t.toNat) (by omega)
  simp only [chk, Bool.and_eq_true, decide_eq_true_eq] at c
  rw [show ((t.toNat : Nat) : Int) = t by omega] at c
  rw [if_pos hc] at c
  unfold shI
  rw [show ((vE i : Nat) : Int).toNat = vE i by omega, if_pos (Nat.eq_of_beq_eq_true c.2)]
theorem shI_ok {v t : Int} (hv : V v) (ht : 0 ≤ t ∧ t ≤ 6) (hc : ¬ (dgs v < tk t ∨ 5 < dgs v - tk t + ld t)) : shI v t = fo (shC t (dgs v) (dgt v (dgs v))) (dgs v - tk t + ld t).toNat ∧ V (shI v t) ∧ ∀ k : Nat, (k : Int) < dgs v - tk t + ld t → 0 ≤ shC t (dgs v) (dgt v (dgs v)) k ∧ shC t (dgs v) (dgt v (dgs v)) k ≤ 9 ∧ 0 ≤ fo (shC t (dgs v) (dgt v (dgs v))) k ∧ fo (shC t (dgs v) (dgt v (dgs v))) k ≤ 99999 := by
  obtain ⟨i, hi, rfl⟩ := hv
  have c := chk_of hi (t := t.toNat) (by omega)
  simp only [chk, Bool.and_eq_true, decide_eq_true_eq] at c
  rw [show ((t.toNat : Nat) : Int) = t by omega] at c
  rw [if_neg hc] at c
  simp only [Bool.and_eq_true, decide_eq_true_eq] at c
  obtain ⟨-, ⟨⟨⟨c1, c2⟩, c3⟩, c4⟩, c5⟩ := c
  have n1 : ¬ shN (vE i) t.toNat = 100000 := by
    intro e
    rw [e] at c1
    simp at c1
  unfold shI
  rw [show ((vE i : Nat) : Int).toNat = vE i by omega, if_neg n1]
  refine ⟨c2.symm, ⟨vR (shN (vE i) t.toNat), ?_, ?_⟩, fun k hk => ?_⟩
  · simpa using c3
  · rw [Nat.eq_of_beq_eq_true c4]
  · exact of_decide_eq_true (List.all_eq_true.mp c5 k (List.mem_range.mpr (by omega)))
theorem shI_V {v t : Int} (hv : V v) (ht : 0 ≤ t ∧ t ≤ 6) : shI v t = -1 ∨ V (shI v t) := by
  by_cases hc : dgs v < tk t ∨ 5 < dgs v - tk t + ld t
  · exact Or.inl (shI_bad hv ht hc)
  · exact Or.inr (shI_ok hv ht hc).2.1
theorem V_0 : V 0 := ⟨0, by decide, by decide⟩
theorem V_1 : V 1 := ⟨1, by decide, by decide⟩
theorem V_12 : V 12 := ⟨5, by decide, by decide⟩
theorem V_123 : V 123 := ⟨18, by decide, by decide⟩
theorem V_start {n z : Int} (h : z = if n = 0 then 0 else if n = 1 then 1 else if n = 2 then 12 else 123) : V z ∧ (z = 0 ∨ z = 1 ∨ z = 12 ∨ z = 123) := by
  subst h
  by_cases q0 : n = 0
  · rw [if_pos q0]; exact ⟨V_0, Or.inl rfl⟩
  · rw [if_neg q0]
    by_cases q1 : n = 1
    · rw [if_pos q1]; exact ⟨V_1, Or.inr (Or.inl rfl)⟩
    · rw [if_neg q1]
      by_cases q2 : n = 2
      · rw [if_pos q2]; exact ⟨V_12, Or.inr (Or.inr (Or.inl rfl))⟩
      · rw [if_neg q2]; exact ⟨V_123, Or.inr (Or.inr (Or.inr rfl))⟩
theorem dgt_w {v k z : Int} (hv : 0 ≤ v ∧ v ≤ 99999) (hk : 0 ≤ k ∧ k ≤ 5) (hz : z = pw 10 k.toNat) : z ≠ 0 ∧ sw_w ((sw_w (v.tdiv z)).tmod 10) = (v.tdiv (pw 10 k.toNat)).tmod 10 := by
  have hp : ∀ p : Int, p = 1 ∨ p = 10 ∨ p = 100 ∨ p = 1000 ∨ p = 10000 ∨ p = 100000 → sw_w ((sw_w (v.tdiv p)).tmod 10) = (v.tdiv p).tmod 10 := by
    intro p hp
    have e : v.tdiv p = v / p := Int.tdiv_eq_ediv_of_nonneg hv.1
    have b : 0 ≤ v / p ∧ v / p ≤ 99999 := by rcases hp with rfl | rfl | rfl | rfl | rfl | rfl <;> omega
    have s1 : sw_w (v / p) = v / p := sw_w_id (by omega) (by omega)
    rw [e, s1, Int.tmod_eq_emod_of_nonneg b.1]
    exact sw_w_id (by omega) (by omega)
  have : k = 0 ∨ k = 1 ∨ k = 2 ∨ k = 3 ∨ k = 4 ∨ k = 5 := by omega
  have hq : pw 10 k.toNat = 1 ∨ pw 10 k.toNat = 10 ∨ pw 10 k.toNat = 100 ∨ pw 10 k.toNat = 1000 ∨ pw 10 k.toNat = 10000 ∨ pw 10 k.toNat = 100000 := by
    rcases this with rfl | rfl | rfl | rfl | rfl | rfl <;> decide
  subst hz
  exact ⟨by omega, hp _ hq⟩
theorem shC_congr {t n : Int} {f g : Nat → Int} (ht : 0 ≤ t ∧ t ≤ 6) (hn : tk t ≤ n) (e : ∀ j : Nat, (j : Int) < n → f j = g j) (k : Nat) (hk : (k : Int) < n - tk t + ld t) : shC t n f k = shC t n g k := by
  have h : t = 0 ∨ t = 1 ∨ t = 2 ∨ t = 3 ∨ t = 4 ∨ t = 5 ∨ t = 6 := by omega
  rcases h with rfl | rfl | rfl | rfl | rfl | rfl | rfl
  · rw [show tk 0 = 1 from rfl] at hn hk; rw [show ld 0 = 2 from rfl] at hk; unfold shC; (repeat' split) <;> first | exact e _ (by omega) | (exfalso; omega)
  · rw [show tk 1 = 1 from rfl] at hn hk; rw [show ld 1 = 0 from rfl] at hk; unfold shC; (repeat' split) <;> first | exact e _ (by omega) | (exfalso; omega)
  · rw [show tk 2 = 2 from rfl] at hn hk; rw [show ld 2 = 2 from rfl] at hk; unfold shC; (repeat' split) <;> first | exact e _ (by omega) | (exfalso; omega)
  · rw [show tk 3 = 2 from rfl] at hn hk; rw [show ld 3 = 3 from rfl] at hk; unfold shC; (repeat' split) <;> first | exact e _ (by omega) | (exfalso; omega)
  · rw [show tk 4 = 3 from rfl] at hn hk; rw [show ld 4 = 3 from rfl] at hk; unfold shC; (repeat' split) <;> first | exact e _ (by omega) | (exfalso; omega)
  · rw [show tk 5 = 2 from rfl] at hn hk; rw [show ld 5 = 1 from rfl] at hk; unfold shC; (repeat' split) <;> first | exact e _ (by omega) | (exfalso; omega)
  · rw [show tk 6 = 2 from rfl] at hn hk; rw [show ld 6 = 3 from rfl] at hk; unfold shC; (repeat' split) <;> first | exact e _ (by omega) | (exfalso; omega)
/-- so many can be told apart by fewer than m numbers -/
theorem pig : ∀ (m n : Nat) (f : Nat → Nat), (∀ i, i < n → f i < m) → (∀ i j, i < j → j < n → f i ≠ f j) → n ≤ m
  | 0, n, f, h1, _ => by
    by_cases q : n = 0
    · omega
    · have := h1 0 (by omega); omega
  | m + 1, n, f, h1, h2 => by
    by_cases q : ∃ i, i < n ∧ f i = m
    · obtain ⟨i0, hi0, e0⟩ := q
      have ih := pig m (n - 1) (fun j => if j = i0 then f (n - 1) else f j) (fun i hi => ?_) (fun i j hij hj => ?_)
      · omega
      · by_cases qi : i = i0
        · have a := h1 (n - 1) (by omega)
          have b := h2 i0 (n - 1) (by omega) (by omega)
          simp only [qi, if_true]
          omega
        · have a := h1 i (by omega)
          have b : f i ≠ f i0 := by
            by_cases q3 : i < i0
            · exact h2 i i0 q3 hi0
            · exact fun e => h2 i0 i (by omega) (by omega) e.symm
          simp only [if_neg qi]
          omega
      · by_cases qi : i = i0
        · simp only [qi, if_true, if_neg (show ¬ j = i0 by omega)]
          exact fun e => h2 j (n - 1) (by omega) (by omega) e.symm
        · by_cases qj : j = i0
          · simp only [qj, if_true, if_neg qi]
            exact h2 i (n - 1) (by omega) (by omega)
          · simp only [if_neg qi, if_neg qj]
            exact h2 i j hij (by omega)
    · have ih := pig m n f (fun i hi => ?_) h2
      · omega
      · have a := h1 i hi
        have b : f i ≠ m := fun e => q ⟨i, hi, e⟩
        omega
/-- what stands behind a stack's shuffle -/
def AF (h : sw_H) (k t : Nat) : Prop := (shI (h 270 k) t = -1 → h 272 (7 * k + t) = -1) ∧ (shI (h 270 k) t ≠ -1 → 0 ≤ h 272 (7 * k + t) ∧ h 272 (7 * k + t) < h 224 79 ∧ h 270 (h 272 (7 * k + t)).toNat = shI (h 270 k) t)
/-- the stacks told so far; of those ahead of K, and of K the shuffles ahead of T, it is told what comes of them -/
def SP (h : sw_H) (s K T : Int) : Prop := 1 ≤ h 224 79 ∧ h 224 79 ≤ 364 ∧ h 270 0 = s ∧ (∀ k : Nat, (k : Int) < h 224 79 → V (h 270 k)) ∧ (∀ j k : Nat, j < k → (k : Int) < h 224 79 → h 270 j ≠ h 270 k) ∧ (∀ k t : Nat, t < 7 → ((k : Int) < K ∨ ((k : Int) = K ∧ (t : Int) < T)) → (k : Int) < h 224 79 → AF h k t)
theorem SP_room {h : sw_H} {s K T v : Int} (p : SP h s K T) (hv : V v) (hn : ∀ k : Nat, (k : Int) < h 224 79 → h 270 k ≠ v) : h 224 79 < 364 := by
  obtain ⟨p1, p2, p3, p4, p5, p6⟩ := p
  have := pig 364 ((h 224 79).toNat + 1) (fun k => if k = (h 224 79).toNat then vR v.toNat else vR (h 270 k).toNat) (fun i hi => ?_) (fun i j hij hj => ?_)
  · omega
  · by_cases q : i = (h 224 79).toNat
    · simp only [if_pos q]; exact (V_R hv).1
    · simp only [if_neg q]; exact (V_R (p4 i (by omega))).1
  · simp only [if_neg (show ¬ i = (h 224 79).toNat by omega)]
    by_cases q : j = (h 224 79).toNat
    · simp only [if_pos q]
      intro e
      refine hn i (by omega) ?_
      rw [(V_R (p4 i (by omega))).2, (V_R hv).2, e]
    · simp only [if_neg q]
      intro e
      refine p5 i j hij (by omega) ?_
      rw [(V_R (p4 i (by omega))).2, (V_R (p4 j (by omega))).2, e]
theorem SP_add {h h1 : sw_H} {s K T v : Int} (p : SP h s K T) (hv : V v) (hn : ∀ k : Nat, (k : Int) < h 224 79 → h 270 k ≠ v) (hK : K < h 224 79) (e0 : ∀ k : Nat, h1 270 k = if (k : Int) = h 224 79 then v else h 270 k) (e9 : h1 224 79 = h 224 79 + 1) (e2 : ∀ k, h1 272 k = h 272 k) : SP h1 s K T := by
  have hr := SP_room p hv hn
  obtain ⟨p1, p2, p3, p4, p5, p6⟩ := p
  refine ⟨by omega, by omega, by rw [e0, if_neg (by omega)]; exact p3, fun k hk => ?_, fun j k hjk hk => ?_, fun k t ht hKT hk => ?_⟩
  · rw [e0]
    by_cases q : (k : Int) = h 224 79
    · rw [if_pos q]; exact hv
    · rw [if_neg q]; exact p4 k (by omega)
  · rw [e0 j, e0 k, if_neg (by omega)]
    by_cases q : (k : Int) = h 224 79
    · rw [if_pos q]; exact hn j (by omega)
    · rw [if_neg q]; exact p5 j k hjk (by omega)
  · have hk2 : (k : Int) < h 224 79 := by omega
    obtain ⟨a1, a2⟩ := p6 k t ht hKT hk2
    unfold AF
    rw [e0 k, if_neg (by omega), e2, e9]
    refine ⟨a1, fun q => ?_⟩
    obtain ⟨b1, b2, b3⟩ := a2 q
    exact ⟨b1, by omega, by rw [e0, if_neg (by omega)]; exact b3⟩
theorem SP_set {h h1 : sw_H} {s K T z : Int} (p : SP h s K T) (hK : 0 ≤ K) (hT : 0 ≤ T ∧ T < 7) (e0 : ∀ k, h1 270 k = h 270 k) (e9 : h1 224 79 = h 224 79) (e2 : ∀ k : Nat, h1 272 k = if (k : Int) = 7 * K + T then z else h 272 k) (a1 : shI (h 270 K.toNat) T = -1 → z = -1) (a2 : shI (h 270 K.toNat) T ≠ -1 → 0 ≤ z ∧ z < h 224 79 ∧ h 270 z.toNat = shI (h 270 K.toNat) T) : SP h1 s K (T + 1) := by
  obtain ⟨p1, p2, p3, p4, p5, p6⟩ := p
  refine ⟨by omega, by omega, by rw [e0]; exact p3, fun k hk => by rw [e0]; exact p4 k (by omega), fun j k hjk hk => by rw [e0, e0]; exact p5 j k hjk (by omega), fun k t ht hKT hk => ?_⟩
  by_cases q : (k : Int) = K ∧ (t : Int) = T
  · have ek : K.toNat = k := by omega
    have et : ((t : Nat) : Int) = T := q.2
    unfold AF
    rw [e0 k, e2, if_pos (by omega), e9, et, ← ek]
    refine ⟨a1, fun q2 => ?_⟩
    obtain ⟨b1, b2, b3⟩ := a2 q2
    exact ⟨b1, b2, by rw [e0]; exact b3⟩
  · obtain ⟨a3, a4⟩ := p6 k t ht (by omega) (by omega)
    unfold AF
    rw [e0 k, e2, if_neg (by omega), e9]
    refine ⟨a3, fun q2 => ?_⟩
    obtain ⟨b1, b2, b3⟩ := a4 q2
    exact ⟨b1, b2, by rw [e0]; exact b3⟩
theorem SP_row {h : sw_H} {s K T : Int} (p : SP h s K T) (hT : 7 ≤ T) : SP h s (K + 1) 0 := by
  obtain ⟨p1, p2, p3, p4, p5, p6⟩ := p
  exact ⟨p1, p2, p3, p4, p5, fun k t ht hKT hk => p6 k t ht (by omega) hk⟩
theorem SP_all {h : sw_H} {s K T : Int} (p : SP h s K T) (hK : h 224 79 ≤ K) : SP h s 364 0 := by
  obtain ⟨p1, p2, p3, p4, p5, p6⟩ := p
  exact ⟨p1, p2, p3, p4, p5, fun k t ht hKT hk => p6 k t ht (by omega) hk⟩
theorem SP_eq {h h1 : sw_H} {s K T : Int} (e0 : ∀ k, h1 270 k = h 270 k) (e9 : h1 224 79 = h 224 79) (e2 : ∀ k, h1 272 k = h 272 k) (p : SP h s K T) : SP h1 s K T := by
  obtain ⟨p1, p2, p3, p4, p5, p6⟩ := p
  refine ⟨by omega, by omega, by rw [e0]; exact p3, fun k hk => by rw [e0]; exact p4 k (by omega), fun j k hjk hk => by rw [e0, e0]; exact p5 j k hjk (by omega), fun k t ht hKT hk => ?_⟩
  obtain ⟨a3, a4⟩ := p6 k t ht hKT (by omega)
  unfold AF
  rw [e0, e2, e9]
  refine ⟨a3, fun q2 => ?_⟩
  rw [e0]
  exact a4 q2
theorem SP_new {h : sw_H} {s : Int} (hs : V s) (e0 : h 270 0 = s) (e9 : h 224 79 = 1) : SP h s 0 0 :=
  ⟨by omega, by omega, e0, fun k hk => by rw [show k = 0 by omega, e0]; exact hs, fun j k hjk hk => by omega, fun k t ht hKT hk => by omega⟩
theorem SP_af {h : sw_H} {s : Int} (p : SP h s 364 0) {k t : Int} (hk : 0 ≤ k ∧ k < h 224 79) (ht : 0 ≤ t ∧ t < 7) : (shI (h 270 k.toNat) t = -1 → h 272 (7 * k + t).toNat = -1) ∧ (shI (h 270 k.toNat) t ≠ -1 → 0 ≤ h 272 (7 * k + t).toNat ∧ h 272 (7 * k + t).toNat < h 224 79 ∧ h 270 (h 272 (7 * k + t).toNat).toNat = shI (h 270 k.toNat) t) := by
  obtain ⟨p1, p2, p3, p4, p5, p6⟩ := p
  have a := p6 k.toNat t.toNat (by omega) (by omega) (by omega)
  unfold AF at a
  rw [show ((t.toNat : Nat) : Int) = t by omega, show 7 * k.toNat + t.toNat = (7 * k + t).toNat by omega] at a
  exact a
theorem SP_rng {h : sw_H} {s : Int} (p : SP h s 364 0) {k t : Int} (hk : 0 ≤ k ∧ k < h 224 79) (ht : 0 ≤ t ∧ t < 7) : -1 ≤ h 272 (7 * k + t).toNat ∧ h 272 (7 * k + t).toNat < h 224 79 := by
  obtain ⟨a1, a2⟩ := SP_af p hk ht
  have p1 := p.1
  by_cases q : shI (h 270 k.toNat) t = -1
  · have := a1 q; omega
  · have := a2 q; omega

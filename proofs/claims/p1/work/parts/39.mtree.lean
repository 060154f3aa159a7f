-- ===== a WORD's ITEMS as a row of sorts: what stands open, how it closes; what a look over them gives =====
def tk (t : Int) : Int := if t = 0 ∨ t = 1 ∨ t = 7 ∨ t = 12 then 1 else if t = 4 then 3 else if t = 8 then 0 else 2
def ld (t : Int) : Int := if t = 1 ∨ t = 7 then 0 else if t = 0 ∨ t = 2 then 2 else if t = 3 ∨ t = 4 ∨ t = 6 then 3 else 1
def pu (t : Int) : Int := if t = 7 then 1 else if t = 8 then -1 else 0
/-- the open ones' places ahead of the i-th ITEM, the inner first (of an if with else, that of its else) -/
def tT (s : Nat → Int) : Nat → List Nat
  | 0 => []
  | i + 1 => if s i = 3 ∨ s i = 6 then i :: tT s i else if s i = 4 then i :: (tT s i).tail else if s i = 5 ∨ s i = 7 then (tT s i).tail else tT s i
theorem tT_open {s : Nat → Int} {i : Nat} (h : s i = 3 ∨ s i = 6) : tT s (i + 1) = i :: tT s i := by simp only [tT]; rw [if_pos h]
theorem tT_else {s : Nat → Int} {i : Nat} (h : s i = 4) : tT s (i + 1) = i :: (tT s i).tail := by simp only [tT]; rw [if_neg (by omega), if_pos h]
theorem tT_shut {s : Nat → Int} {i : Nat} (h : s i = 5 ∨ s i = 7) : tT s (i + 1) = (tT s i).tail := by simp only [tT]; rw [if_neg (by omega), if_neg (by omega), if_pos h]
theorem tT_flat {s : Nat → Int} {i : Nat} (h : s i ≠ 3 ∧ s i ≠ 4 ∧ s i ≠ 5 ∧ s i ≠ 6 ∧ s i ≠ 7) : tT s (i + 1) = tT s i := by simp only [tT]; rw [if_neg (by omega), if_neg (by omega), if_neg (by omega)]
/-- what may stand at a place -/
def tS (s : Nat → Int) (j : Nat) : Prop := (s j = 4 → ∃ p r, tT s j = p :: r ∧ s p = 3) ∧ (s j = 5 → ∃ p r, tT s j = p :: r ∧ (s p = 3 ∨ s p = 4)) ∧ (s j = 7 → ∃ p r, tT s j = p :: r ∧ s p = 6) ∧ (s j = 3 ∨ s j = 6 → (tT s j).length ≤ 3)
/-- where the jumps go, as far as they are known behind the j-th ITEM -/
def tG (s g : Nat → Int) (j : Nat) : Prop := (s j = 4 → ∀ p r, tT s j = p :: r → g p = j) ∧ (s j = 5 ∨ s j = 7 → ∀ p r, tT s j = p :: r → g p = j ∧ g j = p)
/-- HEIGHT and PUSHED over the j-th ITEM -/
def tL (s v : Nat → Int) (cn cl ch : Int → Int) (nd hi : Int) (H U : Nat → Int) (j : Nat) : Prop :=
  (s j = 0 → -nd ≤ H j - tk (v j) ∧ H (j + 1) = H j - tk (v j) + ld (v j) ∧ U (j + 1) = U j + pu (v j) ∧ (v j = 8 → 1 ≤ U j)) ∧
  (s j = 1 → H (j + 1) = H j + 1 ∧ U (j + 1) = U j) ∧
  (s j = 2 → -nd ≤ H j - cn (v j) ∧ H j + ch (v j) ≤ hi ∧ H (j + 1) = H j + cl (v j) ∧ U (j + 1) = U j) ∧
  (s j = 3 → -nd ≤ H j - 1 ∧ H (j + 1) = H j - 1 ∧ U (j + 1) = U j) ∧
  (s j = 4 → ∀ p r, tT s j = p :: r → H (j + 1) = H (p + 1) ∧ U (j + 1) = U (p + 1)) ∧
  (s j = 5 → H (j + 1) = H j ∧ U (j + 1) = U j ∧ ∀ p r, tT s j = p :: r → (s p = 3 → H j = H (p + 1) ∧ U j = U (p + 1)) ∧ (s p = 4 → H j = H p ∧ U j = U p)) ∧
  (s j = 6 → H (j + 1) = H j ∧ U (j + 1) = U j) ∧
  (s j = 7 → H (j + 1) = H j ∧ U (j + 1) = U j ∧ ∀ p r, tT s j = p :: r → H j = H (p + 1) ∧ U j = U (p + 1))
theorem tT_len {s : Nat → Int} {n : Nat} (hS : ∀ j, j < n → tS s j) : ∀ i, i ≤ n → (tT s i).length ≤ 4
  | 0, _ => by simp [tT]
  | i + 1, h => by
    have ih := tT_len hS i (by omega)
    have hs := hS i (by omega)
    by_cases q1 : s i = 3 ∨ s i = 6
    · rw [tT_open q1, List.length_cons]
      have := hs.2.2.2 q1
      omega
    · by_cases q2 : s i = 4
      · obtain ⟨p, r, e, -⟩ := hs.1 q2
        rw [tT_else q2, e, List.tail_cons, List.length_cons]
        rw [e, List.length_cons] at ih
        exact ih
      · by_cases q3 : s i = 5 ∨ s i = 7
        · rw [tT_shut q3, List.length_tail]
          omega
        · rw [tT_flat (by omega)]
          exact ih
/-- what stood open around an open one -/
def tB (s : Nat → Int) (p : Nat) : List Nat := if s p = 4 then (tT s p).tail else tT s p
theorem tT_mem {s : Nat → Int} : ∀ (j : Nat), (∀ pre p r, tT s j = pre ++ p :: r → p < j ∧ (s p = 3 ∨ s p = 4 ∨ s p = 6) ∧ r = tB s p)
  | 0 => by
    intro pre p r h
    simp [tT] at h
  | j + 1 => by
    have ih := tT_mem (s := s) j
    intro pre p r h
    have tl : ∀ pre' : List Nat, (tT s j).tail = pre' ++ p :: r → p < j ∧ (s p = 3 ∨ s p = 4 ∨ s p = 6) ∧ r = tB s p := by
      intro pre' h'
      match e : tT s j, h' with
      | [], h' => simp at h'
      | q :: t, h' => exact ih (q :: pre') p r (by rw [e, List.cons_append]; rw [List.tail_cons] at h'; rw [h'])
    by_cases q1 : s j = 3 ∨ s j = 6
    · rw [tT_open q1] at h
      match pre, h with
      | [], h =>
        simp only [List.nil_append, List.cons.injEq] at h
        obtain ⟨rfl, rfl⟩ := h
        exact ⟨by omega, by omega, by unfold tB; rw [if_neg (by omega)]⟩
      | x :: pre', h =>
        simp only [List.cons_append, List.cons.injEq] at h
        have := ih pre' p r h.2
        exact ⟨by omega, this.2⟩
    · by_cases q2 : s j = 4
      · rw [tT_else q2] at h
        match pre, h with
        | [], h =>
          simp only [List.nil_append, List.cons.injEq] at h
          obtain ⟨rfl, rfl⟩ := h
          exact ⟨by omega, by omega, by unfold tB; rw [if_pos q2]⟩
        | x :: pre', h =>
          simp only [List.cons_append, List.cons.injEq] at h
          have := tl pre' h.2
          exact ⟨by omega, this.2⟩
      · by_cases q3 : s j = 5 ∨ s j = 7
        · rw [tT_shut q3] at h
          have := tl pre h
          exact ⟨by omega, this.2⟩
        · rw [tT_flat (by omega)] at h
          have := ih pre p r h
          exact ⟨by omega, this.2⟩
theorem tT_head {s : Nat → Int} {j p : Nat} {r : List Nat} (h : tT s j = p :: r) : p < j ∧ (s p = 3 ∨ s p = 4 ∨ s p = 6) ∧ r = tB s p := tT_mem j [] p r h
theorem tT_next {s : Nat → Int} {i : Nat} (h : s i = 3 ∨ s i = 4 ∨ s i = 6) : tT s (i + 1) = i :: tB s i := by
  unfold tB
  by_cases q : s i = 4
  · rw [if_pos q, tT_else q]
  · rw [if_neg q, tT_open (by omega)]
theorem tT_close {s : Nat → Int} {n i : Nat} (hi : i < n) (ho : s i = 3 ∨ s i = 4 ∨ s i = 6) (hE : tT s n = []) : ∃ j, i < j ∧ j < n ∧ tT s j = i :: tB s i ∧ (s j = 4 ∨ s j = 5 ∨ s j = 7) := by
  have key : ∀ m, i + 1 + m ≤ n → i ∈ tT s (i + 1 + m) ∨ ∃ j, i < j ∧ j < i + 1 + m ∧ tT s j = i :: tB s i ∧ (s j = 4 ∨ s j = 5 ∨ s j = 7) := by
    intro m
    induction m with
    | zero => intro _; left; rw [Nat.add_zero, tT_next ho]; exact List.mem_cons_self
    | succ m ih =>
      intro hm
      rcases ih (by omega) with h | ⟨j, a, b, c⟩
      · have e : i + 1 + (m + 1) = (i + 1 + m) + 1 := by omega
        rw [e]
        have tl : (s (i + 1 + m) = 4 ∨ s (i + 1 + m) = 5 ∨ s (i + 1 + m) = 7) → i ∈ (tT s (i + 1 + m)).tail ∨ tT s (i + 1 + m) = i :: tB s i := by
          intro _
          match e2 : tT s (i + 1 + m), h with
          | p :: r, h =>
            rcases List.mem_cons.mp h with rfl | h
            · right
              rw [(tT_head e2).2.2]
            · left; exact h
        by_cases q1 : s (i + 1 + m) = 3 ∨ s (i + 1 + m) = 6
        · left; rw [tT_open q1]; exact List.mem_cons_of_mem _ h
        · by_cases q2 : s (i + 1 + m) = 4
          · rcases tl (Or.inl q2) with h | h
            · left; rw [tT_else q2]; exact List.mem_cons_of_mem _ h
            · right; exact ⟨i + 1 + m, by omega, by omega, h, by omega⟩
          · by_cases q3 : s (i + 1 + m) = 5 ∨ s (i + 1 + m) = 7
            · rcases tl (Or.inr q3) with h | h
              · left; rw [tT_shut q3]; exact h
              · right; exact ⟨i + 1 + m, by omega, by omega, h, by omega⟩
            · left; rw [tT_flat (by omega)]; exact h
      · exact Or.inr ⟨j, a, by omega, c⟩
  rcases key (n - (i + 1)) (by omega) with h | ⟨j, a, b, c⟩
  · rw [show i + 1 + (n - (i + 1)) = n by omega, hE] at h
    cases h
  · exact ⟨j, a, by omega, c⟩
/-- the loops that stand open, the inner first -/
def lo (s : Nat → Int) (i : Nat) : List Nat := (tT s i).filter (fun p => decide (s p = 6))
section RUNS
variable {s v g : Nat → Int} {n : Nat} {cn cl ch : Int → Int} {nd hi : Int} {H U : Nat → Int}
theorem lo_len (hS : ∀ j, j < n → tS s j) {i : Nat} (hi : i ≤ n) : (lo s i).length ≤ 4 := Nat.le_trans (List.length_filter_le _ _) (tT_len hS i hi)
theorem run_flat {i : Nat} (h : s i ≠ 3 ∧ s i ≠ 4 ∧ s i ≠ 5 ∧ s i ≠ 6 ∧ s i ≠ 7) : lo s (i + 1) = lo s i := by unfold lo; rw [tT_flat h]
theorem run_open {i : Nat} (h : s i = 3) : lo s (i + 1) = lo s i := by
  unfold lo
  rw [tT_open (Or.inl h), List.filter_cons_of_neg (by simp [h])]
theorem run_times (hS : ∀ j, j < n → tS s j) {i : Nat} (hi : i < n) (h : s i = 6) : lo s (i + 1) = i :: lo s i ∧ (lo s i).length ≤ 3 := by
  constructor
  · unfold lo
    rw [tT_open (Or.inr h), List.filter_cons_of_pos (by simp [h])]
  · exact Nat.le_trans (List.length_filter_le _ _) ((hS i hi).2.2.2 (Or.inr h))
theorem run_then (hS : ∀ j, j < n → tS s j) {i : Nat} (hi : i < n) (h : s i = 5) : lo s (i + 1) = lo s i := by
  obtain ⟨p, r, e, hp⟩ := (hS i hi).2.1 h
  unfold lo
  rw [tT_shut (Or.inl h), e, List.tail_cons, List.filter_cons_of_neg (by simp; omega)]
theorem run_if (hS : ∀ j, j < n → tS s j) (hG : ∀ j, j < n → tG s g j) (hE : tT s n = []) (hL : ∀ j, j < n → tL s v cn cl ch nd hi H U j) {i : Nat} (hi : i < n) (h : s i = 3) : ∃ j : Nat, g i = j ∧ i < j ∧ j < n ∧ H (j + 1) = H i - 1 ∧ U (j + 1) = U i ∧ lo s (j + 1) = lo s i := by
  obtain ⟨j, h1, h2, h3, h4⟩ := tT_close hi (Or.inl h) hE
  have hb : tB s i = tT s i := by unfold tB; rw [if_neg (by omega)]
  rw [hb] at h3
  have li := (hL i hi).2.2.2.1 h
  have lj := hL j h2
  have gj := hG j h2
  rcases h4 with q | q | q
  · have a := lj.2.2.2.2.1 q i _ h3
    refine ⟨j, gj.1 q i _ h3, h1, h2, by omega, by omega, ?_⟩
    unfold lo
    rw [tT_else q, h3, List.tail_cons, List.filter_cons_of_neg (by simp [q])]
  · have a := lj.2.2.2.2.2.1 q
    have b := (a.2.2 i _ h3).1 h
    refine ⟨j, (gj.2 (Or.inl q) i _ h3).1, h1, h2, by omega, by omega, ?_⟩
    unfold lo
    rw [tT_shut (Or.inl q), h3, List.tail_cons]
  · obtain ⟨p, r, e, hp⟩ := (hS j h2).2.2.1 q
    rw [h3] at e
    simp only [List.cons.injEq] at e
    rw [← e.1] at hp
    omega
theorem run_else (hS : ∀ j, j < n → tS s j) (hG : ∀ j, j < n → tG s g j) (hE : tT s n = []) (hL : ∀ j, j < n → tL s v cn cl ch nd hi H U j) {i : Nat} (hi : i < n) (h : s i = 4) : ∃ j : Nat, g i = j ∧ i < j ∧ j < n ∧ H (j + 1) = H i ∧ U (j + 1) = U i ∧ lo s (j + 1) = lo s i := by
  obtain ⟨j, h1, h2, h3, h4⟩ := tT_close hi (Or.inr (Or.inl h)) hE
  have hb : tB s i = (tT s i).tail := by unfold tB; rw [if_pos h]
  rw [hb] at h3
  obtain ⟨p, r, e, hp⟩ := (hS i hi).1 h
  have lj := hL j h2
  have gj := hG j h2
  rcases h4 with q | q | q
  · obtain ⟨p, r, e, hp⟩ := (hS j h2).1 q
    rw [h3] at e
    simp only [List.cons.injEq] at e
    rw [← e.1] at hp
    omega
  · have a := lj.2.2.2.2.2.1 q
    have b := (a.2.2 i _ h3).2 h
    refine ⟨j, (gj.2 (Or.inl q) i _ h3).1, h1, h2, by omega, by omega, ?_⟩
    unfold lo
    rw [tT_shut (Or.inl q), h3, List.tail_cons, e, List.tail_cons, List.filter_cons_of_neg (by simp; omega)]
  · obtain ⟨p, r, e, hp⟩ := (hS j h2).2.2.1 q
    rw [h3] at e
    simp only [List.cons.injEq] at e
    rw [← e.1] at hp
    omega
theorem run_next (hS : ∀ j, j < n → tS s j) (hG : ∀ j, j < n → tG s g j) (hL : ∀ j, j < n → tL s v cn cl ch nd hi H U j) {i : Nat} (hi : i < n) (h : s i = 7) : ∃ a : Nat, g i = a ∧ a < i ∧ s a = 6 ∧ H (a + 1) = H i ∧ U (a + 1) = U i ∧ lo s (a + 1) = lo s i ∧ lo s i = a :: lo s (i + 1) ∧ H (i + 1) = H i ∧ U (i + 1) = U i := by
  obtain ⟨p, r, e, hp⟩ := (hS i hi).2.2.1 h
  have hh := tT_head e
  have hr : r = tT s p := by rw [hh.2.2]; unfold tB; rw [if_neg (by omega)]
  have a := (hL i hi).2.2.2.2.2.2.2 h
  have b := a.2.2 p r e
  refine ⟨p, ((hG i hi).2 (Or.inr h) p r e).2, hh.1, hp, by omega, by omega, ?_, ?_, a.1, a.2.1⟩
  · unfold lo
    rw [tT_open (Or.inr hp), e, hr]
  · unfold lo
    rw [tT_shut (Or.inr h), e, List.tail_cons, List.filter_cons_of_pos (by simp [hp])]
end RUNS

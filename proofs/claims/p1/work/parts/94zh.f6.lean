-- ===== cheapest, where all take as long =====
theorem wt_k {w : Nat → Nat} {s : Nat} (hw : ∀ t, t < 7 → w t = 1001) : ∀ p : List Nat, pvd s p → wt w p = 1001 * p.length
  | [], _ => rfl
  | t :: p, h => by
    have ih := wt_k hw p h.1
    have := hw t h.2.1
    simp only [wt, List.length_cons]
    omega
theorem XT_b (n r : Int) : -1 ≤ XT n r ∧ XT n r ≤ 14 := by
  unfold XT
  by_cases q : tkB n r = true ∧ qI n.toNat (vR r.toNat) < qM n.toNat
  · rw [if_pos q]
    have T := tkB_iff.mp q.1
    have A := (q_A (n := n.toNat) (by have := T.1; omega) q.2).2.2.1
    omega
  · rw [if_neg q]; omega
theorem RW_minK {h : sw_H} {s to r : Int} (R : RW h s to) (h1 : ∀ t : Nat, t < 7 → h 273 t = 1001) (ht : 0 ≤ to ∧ to < h 224 79) (er : h 270 to.toNat = r) {p : List Nat} (p1 : pvd s.toNat p) (pw : ((wt (fun t => (h 273 t).toNat) p : Nat) : Int) = h 271 0) : ∀ q : List Nat, pvd s.toNat q → ((pth s.toNat q : Nat) : Int) = r → p.length ≤ q.length := by
  intro q hq e
  obtain ⟨k, hk, ek, hw⟩ := FX_path R.1 R.2.1 R.2.2.2.1 R.2.2.2.2.1 q hq
  have ekt : k = to.toNat := SP_one R.1 hk (by omega) (by rw [ek, e, er])
  have l0 := (R.2.2.1.1 k hk).2.2.mpr (by omega)
  have a := wt_k (w := fun t => (h 273 t).toNat) (fun t ht => by have := h1 t ht; show (h 273 t).toNat = 1001; omega) p p1
  have b := wt_k (w := fun t => (h 273 t).toNat) (fun t ht => by have := h1 t ht; show (h 273 t).toNat = 1001; omega) q hq
  omega
theorem dvK {x v : Int} (h : x = 1001 * v) (b : 0 ≤ v ∧ v ≤ 14) : sw_w (x.tdiv 1000) = v := by
  rw [Int.tdiv_eq_ediv_of_nonneg (by omega), sw_w_id (by omega) (by omega)]
  omega
theorem XT_refK {h : sw_H} {n r to : Int} (T : TK n r) (R : RW h (st0 n) to) (h1 : ∀ t : Nat, t < 7 → h 273 t = 1001) (ht : 0 ≤ to ∧ to < h 224 79) (er : h 270 to.toNat = r) {z x : Int} (ex : ∃ p : List Nat, pvd (st0 n).toNat p ∧ h 270 to.toNat = ((pth (st0 n).toNat p : Nat) : Int) ∧ ((wt (fun t => (h 273 t).toNat) p : Nat) : Int) = h 271 0 ∧ z = ((p.length : Nat) : Int)) (hx : x = h 271 0) : sw_w (x.tdiv 1000) = XT n r := by
  obtain ⟨p, p1, p2, p3, -⟩ := ex
  have e := XT_of T p1 (er.symm.trans p2) (RW_minK R h1 ht er p1 p3)
  have w := wt_k (w := fun t => (h 273 t).toNat) (fun t ht => by have := h1 t ht; show (h 273 t).toNat = 1001; omega) p p1
  have b := XT_b n r
  exact dvK (by omega) (by omega)
-- the class's costs
def kQ (n : Nat) (h : sw_H) (k : Nat) : Int := h 186 (rQ n k).toNat
def kLb (n k0 : Nat) (h : sw_H) : Prop := ∀ k, k < qM n → 1001 * ((qD n k0 : Nat) : Int) ≤ 1001 * ((qD n k : Nat) : Int) + kQ n h k ∧ 0 ≤ kQ n h k ∧ kQ n h k ≤ 1000000000
def kP (n : Nat) (g h : sw_H) (i j u : Int) : Prop := (∀ k, k < qM n → kQ n h k ≤ kQ n g k) ∧ (∀ m, 1 ≤ m → m < qM n → (i < ((qP n m : Nat) : Int) ∨ (((qP n m : Nat) : Int) = i ∧ ((qT n m : Nat) : Int) < j)) → kQ n h (qP n m) ≤ kQ n g m + 1001) ∧ (u = 0 → ∀ k, k < qM n → kQ n h k = kQ n g k)
def an (n : Nat) : Nat → Nat → Nat
  | 0, k => k
  | j + 1, k => qP n (an n j k)
def kU (n k0 : Nat) (h : sw_H) (p : Int) : Prop := ∀ j : Nat, (j : Int) ≤ p → j ≤ qD n k0 → kQ n h (an n j k0) ≤ 1001 * (j : Int)
def kF (n : Nat) (h : sw_H) : Prop := ∀ m, 1 ≤ m → m < qM n → kQ n h (qP n m) ≤ kQ n h m + 1001
theorem an_ok {n : Nat} (hn : n < 4) {k : Nat} (hk : k < qM n) : ∀ j, j ≤ qD n k → an n j k < qM n ∧ qD n (an n j k) + j = qD n k
  | 0, _ => ⟨hk, rfl⟩
  | j + 1, h => by
    obtain ⟨a, b⟩ := an_ok hn hk j (by omega)
    have e : an n (j + 1) k = qP n (an n j k) := rfl
    rw [e]
    rcases (q_A hn a).2.2.2 with A | A
    · have z := (q_0 hn).2.1
      rw [A] at b
      omega
    · exact ⟨by omega, by have := A.2.2.2.1; omega⟩
theorem q_d0 {n k : Nat} (hn : n < 4) (hk : k < qM n) (e : qD n k = 0) : k = 0 := by
  rcases (q_A hn hk).2.2.2 with A | A
  · exact A
  · have := A.2.2.2.1
    omega
theorem an_end {n k : Nat} (hn : n < 4) (hk : k < qM n) : an n (qD n k) k = 0 := by
  obtain ⟨a, b⟩ := an_ok hn hk (qD n k) (Nat.le_refl _)
  exact q_d0 hn a (by omega)
theorem an_pos {n k j : Nat} (hn : n < 4) (hk : k < qM n) (hj : j + 1 ≤ qD n k) : 1 ≤ an n j k := by
  obtain ⟨a, b⟩ := an_ok hn hk j (by omega)
  rcases Nat.eq_zero_or_pos (an n j k) with q | q
  · have z := (q_0 hn).2.1
    rw [q] at b
    omega
  · exact q
theorem kU_pass {n k0 : Nat} {g h : sw_H} {p u i : Int} (hn : n < 4) (hk : k0 < qM n) (U : kU n k0 g p) (P : kP n g h i 0 u) (hi : i = -1) (hp : 0 ≤ p) : kU n k0 h (p + 1) := by
  intro j hj hd
  cases j with
  | zero =>
    have a := U 0 (by omega) (by omega)
    have b := P.1 (an n 0 k0) (an_ok hn hk 0 (by omega)).1
    omega
  | succ j =>
    obtain ⟨a1, a2⟩ := an_ok hn hk j (by omega)
    have a := U j (by omega) (by omega)
    have b := P.2.1 (an n j k0) (an_pos hn hk hd) a1 (Or.inl (by omega))
    have e : an n (j + 1) k0 = qP n (an n j k0) := rfl
    rw [e]
    omega
theorem kF_of {n : Nat} {g h : sw_H} {i u : Int} (P : kP n g h i 0 u) (hi : i = -1) (hu : u = 0) : kF n h := by
  intro m m1 m2
  have a := P.2.1 m m1 m2 (Or.inl (by omega))
  have b := P.2.2 hu m m2
  omega
theorem k_end {n k0 : Nat} {h : sw_H} {p : Int} (hn : n < 4) (hk : k0 < qM n) (L : kLb n k0 h) (U : kU n k0 h p) (hp : 0 ≤ p) (hf : 364 ≤ p ∨ kF n h) : h 186 (rQ n 0).toNat = 1001 * ((qD n k0 : Nat) : Int) := by
  have A := (q_A hn hk).2.2.1
  have ub : kQ n h 0 ≤ 1001 * ((qD n k0 : Nat) : Int) := by
    rcases hf with q | F
    · have a := U (qD n k0) (by omega) (Nat.le_refl _)
      rw [an_end hn hk] at a
      exact a
    · have ch : ∀ j : Nat, j ≤ qD n k0 → kQ n h (an n j k0) ≤ 1001 * (j : Int) := by
        intro j
        induction j with
        | zero => intro _; exact U 0 (by omega) (by omega)
        | succ j ih =>
          intro hj
          obtain ⟨a1, a2⟩ := an_ok hn hk j (by omega)
          have a := ih (by omega)
          have b := F (an n j k0) (an_pos hn hk hj) a1
          have e : an n (j + 1) k0 = qP n (an n j k0) := rfl
          rw [e]
          omega
      have a := ch (qD n k0) (Nat.le_refl _)
      rw [an_end hn hk] at a
      exact a
  have lb := (L 0 (q_0 hn).2.2.1).1
  have z := (q_0 hn).2.1
  show kQ n h 0 = _
  omega
theorem kP_start {n : Nat} {h : sw_H} {i : Int} (hn : n < 4) (hi : i = (qM n : Int) - 1) : kP n h h i 0 0 := by
  refine ⟨fun k _ => Int.le_refl _, fun m m1 m2 q => ?_, fun _ k _ => rfl⟩
  have t := cS_tree hn m2 m1
  omega
theorem kP_row {n : Nat} {g h : sw_H} {i i2 j u : Int} (hn : n < 4) (P : kP n g h i j u) (hj : j = 7) (hi : i2 = i - 1) : kP n g h i2 0 u := by
  refine ⟨P.1, fun m m1 m2 q => P.2.1 m m1 m2 ?_, P.2.2⟩
  have t := cS_tree hn m2 m1
  by_cases c : ((qP n m : Nat) : Int) = i
  · exact Or.inr ⟨c, by omega⟩
  · exact Or.inl (by omega)
theorem cS_toD {n k t : Nat} (hn : n < 4) (hk : k < qM n) (ht : t < 7) (hz : cS (rQ n k) ((t : Nat) : Int) ≠ -1) : ∃ m, m < qM n ∧ cS (rQ n k) ((t : Nat) : Int) = rQ n m ∧ qD n m ≤ qD n k + 1 := by
  have c := cS_q hn hk ht
  by_cases q : shN (vE (qQ n k)) t = 100000
  · rw [if_pos q] at c
    exact absurd c hz
  · rw [if_neg q] at c
    obtain ⟨m, hm, em, -, hm2⟩ := q_next hn hk ht q
    exact ⟨m, hm, by rw [c, ← em]; rfl, hm2⟩
theorem kL_to {n k0 : Nat} {h : sw_H} {i j z : Int} (hn : n < 4) (hi : 0 ≤ i ∧ i < (qM n : Int)) (hj : 0 ≤ j ∧ j < 7) (L : kLb n k0 h) (hz : z = cS (rQ n i.toNat) j) (hne : z ≠ -1) : 0 ≤ h 186 z.toNat ∧ h 186 z.toNat ≤ 1000000000 := by
  obtain ⟨t, rfl⟩ := Int.eq_ofNat_of_zero_le hj.1
  obtain ⟨m, hm, em, -⟩ := cS_toD (k := i.toNat) (t := t) hn (by omega) (by omega) (by rw [← hz]; exact hne)
  rw [hz, em]
  exact (L m hm).2
theorem kP_skip {n : Nat} {g h : sw_H} {i j u z : Int} (hn : n < 4) (hi : 0 ≤ i ∧ i < (qM n : Int)) (hj : 0 ≤ j ∧ j < 7) (P : kP n g h i j u) (hz : z = cS (rQ n i.toNat) j) (hs : z = -1 ∨ h 186 (rQ n i.toNat).toNat ≤ h 186 z.toNat + 1001) : kP n g h i (j + 1) u := by
  refine ⟨P.1, fun m m1 m2 q => ?_, P.2.2⟩
  by_cases c : i < ((qP n m : Nat) : Int) ∨ (((qP n m : Nat) : Int) = i ∧ ((qT n m : Nat) : Int) < j)
  · exact P.2.1 m m1 m2 c
  · obtain ⟨t1, t2, t3⟩ := cS_tree hn m2 m1
    have ei : qP n m = i.toNat := by omega
    have ej : ((qT n m : Nat) : Int) = j := by omega
    rw [ei, ej] at t3
    have r := rQ_rng hn m2
    rcases hs with hs | hs
    · rw [← hz, hs] at t3
      omega
    · rw [hz, t3] at hs
      have b : h 186 (rQ n m).toNat ≤ kQ n g m := P.1 m m2
      rw [ei]
      show h 186 (rQ n i.toNat).toNat ≤ _
      omega
theorem kP_less {n k0 : Nat} {g h h1 : sw_H} {i j u z : Int} (hn : n < 4) (hi : 0 ≤ i ∧ i < (qM n : Int)) (hj : 0 ≤ j ∧ j < 7) (L : kLb n k0 h) (P : kP n g h i j u) (hz : z = cS (rQ n i.toNat) j) (hne : z ≠ -1) (hl : h 186 z.toNat + 1001 < h 186 (rQ n i.toNat).toNat) (e : ∀ k : Nat, h1 186 k = if (k : Int) = rQ n i.toNat then h 186 z.toNat + 1001 else h 186 k) : kLb n k0 h1 ∧ kP n g h1 i (j + 1) 1 := by
  have hiN : i.toNat < qM n := by omega
  obtain ⟨t, rfl⟩ := Int.eq_ofNat_of_zero_le hj.1
  obtain ⟨m', hm', em', hd'⟩ := cS_toD (k := i.toNat) (t := t) hn hiN (by omega) (by rw [← hz]; exact hne)
  have ez : z = rQ n m' := hz.trans em'
  have ri := rQ_rng hn hiN
  have eQ : ∀ k, k < qM n → kQ n h1 k = if k = i.toNat then kQ n h m' + 1001 else kQ n h k := by
    intro k hk
    have rk := rQ_rng hn hk
    show h1 186 (rQ n k).toNat = _
    rw [e]
    by_cases q : k = i.toNat
    · rw [if_pos q, if_pos (by rw [q]; omega), ez]; rfl
    · have nq : ¬ (((rQ n k).toNat : Nat) : Int) = rQ n i.toNat := by
        intro q2
        exact q (rQ_inj hn hk hiN (by omega))
      rw [if_neg q, if_neg nq]; rfl
  have hlK : kQ n h m' + 1001 < kQ n h i.toNat := by
    rw [ez] at hl
    exact hl
  have Li := L i.toNat hiN
  have Lm := L m' hm'
  refine ⟨fun k hk => ?_, ⟨fun k hk => ?_, fun m m1 m2 q => ?_, fun q => absurd q (by decide)⟩⟩
  · have Lk := L k hk
    rw [eQ k hk]
    by_cases q : k = i.toNat
    · rw [if_pos q, q]
      omega
    · rw [if_neg q]; exact Lk
  · have a := P.1 k hk
    rw [eQ k hk]
    by_cases q : k = i.toNat
    · rw [if_pos q]
      have a2 : kQ n h i.toNat ≤ kQ n g k := by rw [← q]; exact a
      omega
    · rw [if_neg q]; exact a
  · obtain ⟨t1, t2, t3⟩ := cS_tree hn m2 m1
    rw [eQ _ (show qP n m < qM n by omega)]
    by_cases c : qP n m = i.toNat
    · rw [if_pos c]
      by_cases c2 : qT n m = t
      · rw [c, c2] at t3
        have em : m' = m := rQ_inj hn hm' m2 (by rw [← em', t3])
        have a := P.1 m m2
        rw [em]
        omega
      · have a := P.2.1 m m1 m2 (Or.inr ⟨by omega, by omega⟩)
        have a2 : kQ n h i.toNat ≤ kQ n g m + 1001 := by rw [← c]; exact a
        omega
    · rw [if_neg c]
      exact P.2.1 m m1 m2 (Or.inl (by omega))
def F6 (g h : sw_H) : Prop := ∀ a k, a ≠ 186 → h a k = g a k
theorem F6_w {g h h1 : sw_H} {k : Nat} {z : Int} (F : F6 g h) (e : sw_to h h1 186 k z) : F6 g h1 := fun a j q => (e.2 a j (fun c => q c.1)).trans (F a j q)
theorem kL_init {n k0 : Nat} {h h1 : sw_H} {t : Int} (hn : n < 4) (hk : k0 < qM n) (ht : t = rQ n k0) (f : ∀ k : Nat, k < 1024 → h 186 k = 1000000000) (e : sw_to h h1 186 t.toNat 0) : kLb n k0 h1 ∧ kU n k0 h1 0 := by
  subst ht
  have A := (q_A hn hk).2.2.1
  have z0 : kQ n h1 k0 = 0 := e.1
  refine ⟨fun k hk2 => ?_, fun j hj _ => ?_⟩
  · by_cases q : k = k0
    · rw [q, z0]; omega
    · have rk := rQ_rng hn hk2
      have r0 := rQ_rng hn hk
      have v : kQ n h1 k = 1000000000 := by
        show h1 186 (rQ n k).toNat = _
        rw [e.2 186 _ (fun c => q (rQ_inj hn hk2 hk (by have := c.2; omega))), f _ (by omega)]
      rw [v]; omega
  · have ej : j = 0 := by omega
    subst ej
    have : an n 0 k0 = k0 := rfl
    rw [this, z0]
    omega
set_option maxRecDepth 20000 in
set_option maxHeartbeats 4000000 in
theorem f_X12_cheapest {G : sw_G} (d : Nat) {h0 : sw_H} (hJ : mI h0) (y1 y2 : Int) (hB : mB h0) (hF : FM h0)  : sw_E G NH SH (d + 5) mX12_cheapest 0 [some (sw_r 224), some (sw_i y1), some (sw_i y2), none] [] h0 (sw_Qi (fun z h' => mK (prW [59, 60, 67, 79, 83] [251, 262, 270, 271, 272, 273, 274]) h0 h' ∧ (z = XT y1 y2))) := by
  have hI : mK (prW [59, 60, 67, 79, 83] [251, 262, 270, 271, 272, 273, 274]) h0 h0 := mK.refl hJ
  obtain ⟨b0, r0, t2, k4, k5, a3, a4, l3, s9, t0, z7, z8, z9, z10, z12, z61, z89⟩ := hF
  have h85 := hB.2.2.2
  refine sx_iconst dX12_cheapest_0 ⟨by decide, by decide⟩ ?_
  refine sx_istore_n dX12_cheapest_1 (by decide) ?_
  refine sx_loop1 (fun (h : sw_H) (t : Int) => (mK (prW [59, 60, 67, 79, 83] [251, 262, 270, 271, 272, 273, 274]) h0 h) ∧ (0 ≤ t) ∧ (∀ j : Nat, (j : Int) < t → h 273 j = 1001) ∧ (h 224 85 = -1) ∧ (∀ k, h 232 k = 0)) (fun (h : sw_H) (t : Int) => (10 - t).toNat) (fun (h : sw_H) (t : Int) => sw_E G NH SH (d + 5) mX12_cheapest 2 [some (sw_r 224), some (sw_i y1), some (sw_i y2), some (sw_i t)] [] h (sw_Qi (fun z h' => mK (prW [59, 60, 67, 79, 83] [251, 262, 270, 271, 272, 273, 274]) h0 h' ∧ (z = XT y1 y2)))) ?_ _ _ ?_
  · rintro h1 t_2 ⟨Ih1, jt, jw, j85, j32⟩ ihh1
    try dsimp only at ihh1
    refine sx_iload_n dX12_cheapest_2 rfl ?_
    refine sx_bipush dX12_cheapest_3 ⟨by decide, by decide, by decide⟩ ?_
    refine sx_icmp_ge (tgt := 32) dX12_cheapest_5 (by decide) (fun c3 => ?_) (fun c3 => ?_)
    ·
      have hw1 : ∀ t : Nat, t < 7 → h1 273 t = 1001 := fun t ht => jw t (by omega)
      have hw : WG h1 := fun t ht => by rw [hw1 t ht]; omega
      refine sx_aload_n dX12_cheapest_32 rfl ?_
      refine sx_iload_n dX12_cheapest_33 rfl ?_
      refine sx_iload_n dX12_cheapest_34 rfl ?_
      refine sx_callVz lk_X12_638 cl_12 s_224 (by decide) dX12_cheapest_35 (vs := [_, _]) rfl rfl (Nat.le_of_ble_eq_true rfl) (Nat.le_of_ble_eq_true rfl) rfl (x_X12_canTask _ Ih1.1 _ _ (hw)) (fun x5 h4 zx5 ph4 => ?_)
      obtain ⟨Kh4, l_h4, r_h4, u_h4⟩ := ph4
      have Ih4 := Ih1.tr Kh4 (prW_sub rfl rfl)
      have th4_224_85 := Kh4.2 224 85 rfl
      refine sx_if_ne (tgt := 43) dX12_cheapest_38 (by decide) (fun c6 => ?_) (fun c6 => ?_)
      ·
        have vx5 : x5 = 1 := by rcases zx5 with q | q; (exact absurd q c6); exact q
        clear zx5
        obtain ⟨hT, to, hR, ht0, ht1, er⟩ := r_h4 (by omega)
        have hw2 : ∀ t : Nat, t < 7 → h4 273 t = 1001 := fun t ht => by rw [Kh4.2 273 t rfl]; exact hw1 t ht
        refine sx_aload_n dX12_cheapest_43 rfl ?_
        refine sx_callVv lk_X12_641 cl_12 s_224 (by decide) dX12_cheapest_44 (vs := []) rfl rfl (Nat.le_of_ble_eq_true rfl) (Nat.le_of_ble_eq_true rfl) rfl (x_X12_layRow _ Ih4.1 _ _ (hR) (by omega)) (fun h7 ph7 => ?_)
        obtain ⟨Kh7, x_h7⟩ := ph7
        have Ih7 := Ih4.tr Kh7 (prW_sub rfl rfl)
        have th7_224_85 := Kh7.2 224 85 rfl
        have hx := Kh7.2 271 0 rfl
        have xl := x_h7
        refine sx_aload_n dX12_cheapest_47 rfl ?_
        refine sx_getS (k := 78) (t := 271) cl_12 fl_X12_157 dX12_cheapest_48 s_224 (by decide) rfl (by decide) ?_
        refine sx_iconst dX12_cheapest_51 ⟨by decide, by decide⟩ ?_
        refine sx_iaload dX12_cheapest_52 s_271 (by decide) (by decide) ⟨by omega, by omega⟩ ?_
        refine sx_sipush dX12_cheapest_53 ⟨by decide, by decide, by decide⟩ ?_
        refine sx_idiv dX12_cheapest_56 (by decide) ?_
        refine sx_ireturn dX12_cheapest_57 ?_
        exact ⟨_, rfl, ⟨Ih7, (XT_refK hT hR hw2 ⟨ht0, ht1⟩ er xl hx)⟩⟩
      ·
        clear zx5
        refine sx_iconst dX12_cheapest_41 ⟨by decide, by decide⟩ ?_
        refine sx_ireturn dX12_cheapest_42 ?_
        exact ⟨_, rfl, ⟨Ih4, XT_none (u_h4 (by omega))⟩⟩
    ·
      refine sx_aload_n dX12_cheapest_8 rfl ?_
      refine sx_getS (k := 81) (t := 273) cl_12 fl_X12_163 dX12_cheapest_9 s_224 (by decide) rfl (by decide) ?_
      refine sx_iload_n dX12_cheapest_12 rfl ?_
      refine sx_sipush dX12_cheapest_13 ⟨by decide, by decide, by decide⟩ ?_
      refine sx_aload_n dX12_cheapest_16 rfl ?_
      refine sx_iconst dX12_cheapest_17 ⟨by decide, by decide⟩ ?_
      refine sx_iload_n dX12_cheapest_18 rfl ?_
      refine sx_callVi lk_X12_644 cl_12 s_224 (by decide) dX12_cheapest_19 (vs := [_, _]) rfl rfl (Nat.le_of_ble_eq_true rfl) (Nat.le_of_ble_eq_true rfl) rfl (f_X12_takesOf _ Ih1.1 _ _ (⟨j85, j32⟩) (by decide)) (fun x10 h9 ph9 => ?_)
      obtain ⟨Kh9, p_h9⟩ := ph9
      have Ih9 := Ih1.tr Kh9 (prW_sub rfl rfl)
      have th9_224_83 := Kh9.2 224 83 rfl
      have th9_224_85 := Kh9.2 224 85 rfl
      have jwk : ∀ j : Nat, (j : Int) < t_2 → h9 273 j = 1001 := fun j hj => by rw [Kh9.2 273 j rfl]; exact jw j hj
      have j32b : ∀ k, h9 232 k = 0 := fun k => (Kh9.2 232 k rfl).trans (j32 k)
      refine sx_imul dX12_cheapest_22 ?_
      refine sy_topw (by omega) ?_
      refine sx_iconst dX12_cheapest_23 ⟨by decide, by decide⟩ ?_
      refine sx_iadd dX12_cheapest_24 ?_
      refine sy_topw (by omega) ?_
      refine sy_iastore dX12_cheapest_25 s_273 (by decide) (by decide) ⟨by omega, by omega⟩ (fun h11 eh11 => ?_)
      have Ih11 := Ih9.up eh11 trivial rfl
      have th11_224_83 := eh11.2 (224) 83 (fun q => absurd q.1 (by decide))
      have th11_224_85 := eh11.2 (224) 85 (fun q => absurd q.1 (by decide))
      have jw2 : ∀ j : Nat, (j : Int) < t_2 + 1 → h11 273 j = 1001 := fun j hj => by rw [eh11.at 273 j]; simp only [true_and]; by_cases q : j = (t_2).toNat; (rw [if_pos q]; omega); (rw [if_neg q]; exact jwk j (by omega))
      have j32c : ∀ k, h11 232 k = 0 := fun k => (eh11.2 232 k (by omega)).trans (j32b k)
      refine sx_iinc dX12_cheapest_26 (by decide) rfl ?_
      rw [sw_w_id (by omega) (by omega)]
      refine sx_goto (tgt := 2) dX12_cheapest_29 (by decide) ?_
      exact ihh1 _ _ ⟨Ih11, by omega, by exact jw2, by omega, by exact j32c⟩ (by exact sy_dec (by omega) (by omega))
  · exact ⟨hI, by omega, by (intro j hj; omega), by omega, by exact z12⟩
set_option maxRecDepth 20000 in
set_option maxHeartbeats 4000000 in
theorem f_X6_walkCheaply {G : sw_G} (d : Nat) {h0 : sw_H} (hJ : cJ h0) (f t : Int) (hf : 0 ≤ f ∧ f ≤ 1023) : sw_E G NH SH (d + 2) mX6_walkCheaply 0 [some (sw_r 182), some (sw_i f), some (sw_i t), none, none, none, none] [] h0 (sw_Qv (fun h' => cK prH h0 h' ∧ (∀ k, h' 186 k = h0 186 k))) := by
  have hI : cK prH h0 h0 := cK.refl hJ
  refine sx_iload_n dX6_walkCheaply_0 rfl ?_
  refine sx_istore_n dX6_walkCheaply_1 (by decide) ?_
  refine sx_loop1 (fun (h : sw_H) (q : Int) => (cK prH h0 h) ∧ (0 ≤ q) ∧ (q ≤ 1023) ∧ (∀ k, h 186 k = h0 186 k)) (fun (h : sw_H) (q : Int) => (364 - h 182 7).toNat) (fun (h : sw_H) (q : Int) => sw_E G NH SH (d + 2) mX6_walkCheaply 2 [some (sw_r 182), some (sw_i f), some (sw_i t), some (sw_i q), none, none, none] [] h (sw_Qv (fun h' => cK prH h0 h' ∧ (∀ k, h' 186 k = h0 186 k)))) ?_ _ _ ?_
  · rintro h1 q_2 ⟨Ih1, jq0, jq1, jc⟩ ihh1
    try dsimp only at ihh1
    refine sx_iload_n dX6_walkCheaply_2 rfl ?_
    refine sx_iload_n dX6_walkCheaply_3 rfl ?_
    refine sx_icmp_eq (tgt := 121) dX6_walkCheaply_4 (by decide) (fun c3 => ?_) (fun c3 => ?_)
    ·
      refine sx_ret dX6_walkCheaply_121 ?_
      exact ⟨rfl, ⟨Ih1, jc⟩⟩
    ·
      refine sx_aload_n dX6_walkCheaply_7 rfl ?_
      refine sx_getI (k := 7) cl_6 fl_X6_40 dX6_walkCheaply_8 s_182 (by decide) rfl (by decide) ?_
      have r4 : (0 : Int) ≤ h1 182 7 ∧ h1 182 7 ≤ 364 := Ih1.1.1 182 7
      refine sx_sipush dX6_walkCheaply_11 ⟨by decide, by decide, by decide⟩ ?_
      refine sx_icmp_ge (tgt := 121) dX6_walkCheaply_14 (by decide) (fun c5 => ?_) (fun c5 => ?_)
      ·
        refine sx_ret dX6_walkCheaply_121 ?_
        exact ⟨rfl, ⟨Ih1, jc⟩⟩
      ·
        refine sx_iconst dX6_walkCheaply_17 ⟨by decide, by decide⟩ ?_
        refine sx_istore dX6_walkCheaply_18 (by decide) ?_
        refine sx_iconst dX6_walkCheaply_20 ⟨by decide, by decide⟩ ?_
        refine sx_istore dX6_walkCheaply_21 (by decide) ?_
        refine sx_loop2 (fun (h : sw_H) (o : Int) (t2 : Int) => (h1 = h) ∧ (-1 ≤ o) ∧ (o ≤ 1023) ∧ (0 ≤ t2) ∧ (t2 ≤ 7)) (fun (h : sw_H) (o : Int) (t2 : Int) => (2048 * (8 - t2) - o).toNat) (fun (h : sw_H) (o : Int) (t2 : Int) => sw_E G NH SH (d + 2) mX6_walkCheaply 23 [some (sw_r 182), some (sw_i f), some (sw_i t), some (sw_i q_2), some (sw_i o), some (sw_i t2), none] [] h (sw_Qv (fun h' => cK prH h0 h' ∧ (∀ k, h' 186 k = h0 186 k)))) ?_ _ _ _ ?_
        · rintro h6 o_7 t2_8 ⟨rfl, j9, j10, j11, j12⟩ ihh6
          try dsimp only at ihh6
          refine sx_iload dX6_walkCheaply_23 rfl ?_
          refine sx_bipush dX6_walkCheaply_25 ⟨by decide, by decide, by decide⟩ ?_
          refine sx_icmp_ge (tgt := 87) dX6_walkCheaply_27 (by decide) (fun c13 => ?_) (fun c13 => ?_)
          ·
            refine sx_iload dX6_walkCheaply_87 rfl ?_
            refine sx_iconst dX6_walkCheaply_89 ⟨by decide, by decide⟩ ?_
            refine sx_icmp_ne (tgt := 94) dX6_walkCheaply_90 (by decide) (fun c14 => ?_) (fun c14 => ?_)
            ·
              refine sx_aload_n dX6_walkCheaply_94 rfl ?_
              refine sx_getS (k := 6) (t := 188) cl_6 fl_X6_27 dX6_walkCheaply_95 s_182 (by decide) rfl (by decide) ?_
              refine sx_aload_n dX6_walkCheaply_98 rfl ?_
              refine sx_getI (k := 7) cl_6 fl_X6_40 dX6_walkCheaply_99 s_182 (by decide) rfl (by decide) ?_
              have r15 : (0 : Int) ≤ h1 182 7 ∧ h1 182 7 ≤ 364 := Ih1.1.1 182 7
              refine sx_iload dX6_walkCheaply_102 rfl ?_
              refine sy_iastore dX6_walkCheaply_104 s_188 (by decide) (by decide) ⟨by omega, by omega⟩ (fun h16 eh16 => ?_)
              have Ih16 := Ih1.up eh16 trivial rfl rfl
              have th16_182_7 := eh16.2 (182) 7 (by omega)
              refine sx_aload_n dX6_walkCheaply_105 rfl ?_
              refine sx_dupr dX6_walkCheaply_106 ?_
              refine sx_getI (k := 7) cl_6 fl_X6_40 dX6_walkCheaply_107 s_182 (by decide) rfl (by decide) ?_
              have r17 : (0 : Int) ≤ h16 182 7 ∧ h16 182 7 ≤ 364 := Ih16.1.1 182 7
              refine sx_iconst dX6_walkCheaply_110 ⟨by decide, by decide⟩ ?_
              refine sx_iadd dX6_walkCheaply_111 ?_
              refine sy_topw (by omega) ?_
              refine sy_putI (k := 7) cl_6 fl_X6_40 dX6_walkCheaply_112 s_182 (by decide) rfl (by decide) rfl rfl (fun h18 eh18 => ?_)
              have Ih18 := Ih16.up eh18 (show (0 : Int) ≤ _ ∧ _ ≤ (364 : Int) from ⟨by omega, by omega⟩) rfl rfl
              have th18_182_7 := eh18.1
              have jc2 : ∀ k, h18 186 k = h0 186 k := fun k => by rw [eh18.2 186 k (by omega), eh16.2 186 k (by omega)]; exact jc k
              refine sx_iload dX6_walkCheaply_115 rfl ?_
              refine sx_istore_n dX6_walkCheaply_117 (by decide) ?_
              refine sx_goto (tgt := 2) dX6_walkCheaply_118 (by decide) ?_
              refine sx_kill 4 ?_
              refine sx_kill 5 ?_
              exact ihh1 _ _ ⟨Ih18, by omega, by omega, by exact jc2⟩ (by exact sy_dec (by omega) (by omega))
            ·
              refine sx_ret dX6_walkCheaply_93 ?_
              exact ⟨rfl, ⟨Ih1, jc⟩⟩
          ·
            refine sx_iload dX6_walkCheaply_30 rfl ?_
            refine sx_iconst dX6_walkCheaply_32 ⟨by decide, by decide⟩ ?_
            refine sx_icmp_ne (tgt := 87) dX6_walkCheaply_33 (by decide) (fun c19 => ?_) (fun c19 => ?_)
            ·
              refine sx_iload dX6_walkCheaply_87 rfl ?_
              refine sx_iconst dX6_walkCheaply_89 ⟨by decide, by decide⟩ ?_
              refine sx_icmp_ne (tgt := 94) dX6_walkCheaply_90 (by decide) (fun c20 => ?_) (fun c20 => ?_)
              ·
                refine sx_aload_n dX6_walkCheaply_94 rfl ?_
                refine sx_getS (k := 6) (t := 188) cl_6 fl_X6_27 dX6_walkCheaply_95 s_182 (by decide) rfl (by decide) ?_
                refine sx_aload_n dX6_walkCheaply_98 rfl ?_
                refine sx_getI (k := 7) cl_6 fl_X6_40 dX6_walkCheaply_99 s_182 (by decide) rfl (by decide) ?_
                have r21 : (0 : Int) ≤ h1 182 7 ∧ h1 182 7 ≤ 364 := Ih1.1.1 182 7
                refine sx_iload dX6_walkCheaply_102 rfl ?_
                refine sy_iastore dX6_walkCheaply_104 s_188 (by decide) (by decide) ⟨by omega, by omega⟩ (fun h22 eh22 => ?_)
                have Ih22 := Ih1.up eh22 trivial rfl rfl
                have th22_182_7 := eh22.2 (182) 7 (by omega)
                refine sx_aload_n dX6_walkCheaply_105 rfl ?_
                refine sx_dupr dX6_walkCheaply_106 ?_
                refine sx_getI (k := 7) cl_6 fl_X6_40 dX6_walkCheaply_107 s_182 (by decide) rfl (by decide) ?_
                have r23 : (0 : Int) ≤ h22 182 7 ∧ h22 182 7 ≤ 364 := Ih22.1.1 182 7
                refine sx_iconst dX6_walkCheaply_110 ⟨by decide, by decide⟩ ?_
                refine sx_iadd dX6_walkCheaply_111 ?_
                refine sy_topw (by omega) ?_
                refine sy_putI (k := 7) cl_6 fl_X6_40 dX6_walkCheaply_112 s_182 (by decide) rfl (by decide) rfl rfl (fun h24 eh24 => ?_)
                have Ih24 := Ih22.up eh24 (show (0 : Int) ≤ _ ∧ _ ≤ (364 : Int) from ⟨by omega, by omega⟩) rfl rfl
                have th24_182_7 := eh24.1
                have jc2 : ∀ k, h24 186 k = h0 186 k := fun k => by rw [eh24.2 186 k (by omega), eh22.2 186 k (by omega)]; exact jc k
                refine sx_iload dX6_walkCheaply_115 rfl ?_
                refine sx_istore_n dX6_walkCheaply_117 (by decide) ?_
                refine sx_goto (tgt := 2) dX6_walkCheaply_118 (by decide) ?_
                refine sx_kill 4 ?_
                refine sx_kill 5 ?_
                exact ihh1 _ _ ⟨Ih24, by omega, by omega, by exact jc2⟩ (by exact sy_dec (by omega) (by omega))
              ·
                refine sx_ret dX6_walkCheaply_93 ?_
                exact ⟨rfl, ⟨Ih1, jc⟩⟩
            ·
              refine sx_iload_n dX6_walkCheaply_36 rfl ?_
              refine sx_iload dX6_walkCheaply_37 rfl ?_
              refine sx_callSi lk_X6_68 dX6_walkCheaply_39 (vs := [_, _]) rfl rfl (Nat.le_of_ble_eq_true rfl) (Nat.le_of_ble_eq_true rfl) rfl (c_X6_shuffle _ Ih1.1 _ _ (by omega) (by omega)) (fun x26 h25 ph25 => ?_)
              obtain ⟨rfl, s_x26⟩ := ph25
              refine sx_istore dX6_walkCheaply_42 (by decide) ?_
              refine sx_iload dX6_walkCheaply_44 rfl ?_
              refine sx_iconst dX6_walkCheaply_46 ⟨by decide, by decide⟩ ?_
              refine sx_icmp_eq (tgt := 81) dX6_walkCheaply_47 (by decide) (fun c27 => ?_) (fun c27 => ?_)
              ·
                refine sx_iinc dX6_walkCheaply_81 (by decide) rfl ?_
                rw [sw_w_id (by omega) (by omega)]
                refine sx_goto (tgt := 23) dX6_walkCheaply_84 (by decide) ?_
                refine sx_kill 6 ?_
                exact ihh6 _ _ _ ⟨rfl, by omega, by omega, by omega, by omega⟩ (by exact sy_dec (by omega) (by omega))
              ·
                refine sx_aload_n dX6_walkCheaply_50 rfl ?_
                refine sx_getS (k := 4) (t := 186) cl_6 fl_X6_21 dX6_walkCheaply_51 s_182 (by decide) rfl (by decide) ?_
                refine sx_iload dX6_walkCheaply_54 rfl ?_
                refine sx_iaload dX6_walkCheaply_56 s_186 (by decide) (by decide) ⟨by omega, by omega⟩ ?_
                refine sx_aload_n dX6_walkCheaply_57 rfl ?_
                refine sx_getS (k := 5) (t := 187) cl_6 fl_X6_24 dX6_walkCheaply_58 s_182 (by decide) rfl (by decide) ?_
                refine sx_iload dX6_walkCheaply_61 rfl ?_
                refine sx_iaload dX6_walkCheaply_63 s_187 (by decide) (by decide) ⟨by omega, by omega⟩ ?_
                refine sx_iadd dX6_walkCheaply_64 ?_
                refine sx_aload_n dX6_walkCheaply_65 rfl ?_
                refine sx_getS (k := 4) (t := 186) cl_6 fl_X6_21 dX6_walkCheaply_66 s_182 (by decide) rfl (by decide) ?_
                refine sx_iload_n dX6_walkCheaply_69 rfl ?_
                refine sx_iaload dX6_walkCheaply_70 s_186 (by decide) (by decide) ⟨by omega, by omega⟩ ?_
                refine sx_icmp_ne (tgt := 81) dX6_walkCheaply_71 (by decide) (fun c28 => ?_) (fun c28 => ?_)
                ·
                  refine sx_iinc dX6_walkCheaply_81 (by decide) rfl ?_
                  rw [sw_w_id (by omega) (by omega)]
                  refine sx_goto (tgt := 23) dX6_walkCheaply_84 (by decide) ?_
                  refine sx_kill 6 ?_
                  exact ihh6 _ _ _ ⟨rfl, by omega, by omega, by omega, by omega⟩ (by exact sy_dec (by omega) (by omega))
                ·
                  refine sx_iload dX6_walkCheaply_74 rfl ?_
                  refine sx_istore dX6_walkCheaply_76 (by decide) ?_
                  refine sx_goto (tgt := 84) dX6_walkCheaply_78 (by decide) ?_
                  refine sx_goto (tgt := 23) dX6_walkCheaply_84 (by decide) ?_
                  refine sx_kill 6 ?_
                  exact ihh6 _ _ _ ⟨rfl, by omega, by omega, by omega, by omega⟩ (by exact sy_dec (by omega) (by omega))
        · exact ⟨rfl, by omega, by omega, by omega, by omega⟩
  · exact ⟨hI, by omega, by omega, by (intro k; rfl)⟩
set_option maxRecDepth 20000 in
set_option maxHeartbeats 4000000 in
theorem f_J7_fill_53178_186 {G : sw_G} (d : Nat) {h0 : sw_H} (hJ : cJ h0) (v : Int) : sw_E G NH SH (d) mJ7_fill_53178 0 [some (sw_r 186), some (sw_i v), none, none] [] h0 (sw_Qv (fun h' => cK prI h0 h' ∧ (∀ k : Nat, k < 1024 → h' 186 k = v) ∧ F6 h0 h')) := by
  have hI : cK prI h0 h0 := cK.refl hJ
  refine sx_iconst dJ7_fill_53178_0 ⟨by decide, by decide⟩ ?_
  refine sx_istore_n dJ7_fill_53178_1 (by decide) ?_
  refine sx_aload_n dJ7_fill_53178_2 rfl ?_
  refine sx_alen (t := 0) dJ7_fill_53178_3 s_186 (by decide) (by decide) (by decide) ?_
  refine sy_top (fun v1 ev1 => ?_)
  refine sx_istore_n dJ7_fill_53178_4 (by decide) ?_
  refine sx_loop1 (fun (h : sw_H) (i : Int) => (cK prI h0 h) ∧ (0 ≤ i) ∧ (∀ k : Nat, (k : Int) < i → h 186 k = v) ∧ (F6 h0 h)) (fun (h : sw_H) (i : Int) => (1024 - i).toNat) (fun (h : sw_H) (i : Int) => sw_E G NH SH (d) mJ7_fill_53178 5 [some (sw_r 186), some (sw_i v), some (sw_i i), some (sw_i v1)] [] h (sw_Qv (fun h' => cK prI h0 h' ∧ (∀ k : Nat, k < 1024 → h' 186 k = v) ∧ F6 h0 h'))) ?_ _ _ ?_
  · rintro h2 i_3 ⟨Ih2, ji, jv, jF⟩ ihh2
    try dsimp only at ihh2
    refine sx_iload_n dJ7_fill_53178_5 rfl ?_
    refine sx_iload_n dJ7_fill_53178_6 rfl ?_
    refine sx_icmp_ge (tgt := 20) dJ7_fill_53178_7 (by decide) (fun c4 => ?_) (fun c4 => ?_)
    ·
      refine sx_ret dJ7_fill_53178_20 ?_
      exact ⟨rfl, ⟨Ih2, fun k hk => jv k (by omega), jF⟩⟩
    ·
      refine sx_aload_n dJ7_fill_53178_10 rfl ?_
      refine sx_iload_n dJ7_fill_53178_11 rfl ?_
      refine sx_iload_n dJ7_fill_53178_12 rfl ?_
      refine sy_iastore dJ7_fill_53178_13 s_186 (by decide) (by decide) ⟨by omega, by omega⟩ (fun h5 eh5 => ?_)
      have Ih5 := Ih2.up eh5 trivial rfl rfl
      have jv2 : ∀ k : Nat, (k : Int) < i_3 + 1 → h5 186 k = v := fun k hk => by rw [eh5.at 186 k]; simp only [true_and]; by_cases q : k = (i_3).toNat; (rw [if_pos q]); (rw [if_neg q]; exact jv k (by omega))
      have jF2 := F6_w jF eh5
      refine sx_iinc dJ7_fill_53178_14 (by decide) rfl ?_
      rw [sw_w_id (by omega) (by omega)]
      refine sx_goto (tgt := 5) dJ7_fill_53178_17 (by decide) ?_
      exact ihh2 _ _ ⟨Ih5, by omega, by exact jv2, by exact jF2⟩ (by exact sy_dec (by omega) (by omega))
  · exact ⟨hI, by omega, by (intro k hk; omega), by exact fun a k q => rfl⟩
set_option maxRecDepth 20000 in
set_option maxHeartbeats 4000000 in
theorem f_X6_reckonCosts {G : sw_G} (d : Nat) {h0 : sw_H} (hJ : cJ h0) (t : Int) (n k0 : Nat) (hn : n < 4) (hk : k0 < qM n) (ht : t = rQ n k0) (hq : h0 182 1 = (qM n : Int)) (hQ : ∀ k : Nat, k < qM n → h0 183 k = rQ n k) (hp : ∀ j : Nat, j < 7 → h0 187 j = 1001) : sw_E G NH SH (d + 2) mX6_reckonCosts 0 [some (sw_r 182), some (sw_i t), none, none, none, none, none, none] [] h0 (sw_Qv (fun h' => cK prI h0 h' ∧ h' 186 (rQ n 0).toNat = 1001 * ((qD n k0 : Nat) : Int))) := by
  have hI : cK prI h0 h0 := cK.refl hJ
  have tr0 := rQ_rng hn hk
  have q36 := (q_0 hn).2.2.2
  refine sx_aload_n dX6_reckonCosts_0 rfl ?_
  refine sx_getS (k := 4) (t := 186) cl_6 fl_X6_21 dX6_reckonCosts_1 s_182 (by decide) rfl (by decide) ?_
  refine sx_ldc kc_X6_79 ⟨by decide, by decide⟩ dX6_reckonCosts_4 ?_
  refine sx_callSv lk_X6_55 dX6_reckonCosts_6 (vs := [_, _]) rfl rfl (Nat.le_of_ble_eq_true rfl) (Nat.le_of_ble_eq_true rfl) rfl (f_J7_fill_53178_186 _ hI.1 _) (fun h1 ph1 => ?_)
  obtain ⟨Kh1, f_h1, g_h1⟩ := ph1
  have Ih1 := hI.tr Kh1 sb_prI_prI
  refine sx_aload_n dX6_reckonCosts_9 rfl ?_
  refine sx_getS (k := 4) (t := 186) cl_6 fl_X6_21 dX6_reckonCosts_10 s_182 (by decide) rfl (by decide) ?_
  refine sx_iload_n dX6_reckonCosts_13 rfl ?_
  refine sx_iconst dX6_reckonCosts_14 ⟨by decide, by decide⟩ ?_
  refine sy_iastore dX6_reckonCosts_15 s_186 (by decide) (by decide) ⟨by omega, by omega⟩ (fun h3 eh3 => ?_)
  have Ih3 := Ih1.up eh3 trivial rfl rfl
  refine sx_iconst dX6_reckonCosts_16 ⟨by decide, by decide⟩ ?_
  refine sx_istore_n dX6_reckonCosts_17 (by decide) ?_
  refine sx_iconst dX6_reckonCosts_18 ⟨by decide, by decide⟩ ?_
  refine sx_istore_n dX6_reckonCosts_19 (by decide) ?_
  have LU := kL_init hn hk ht f_h1 eh3
  have jF0 : F6 h0 h3 := F6_w g_h1 eh3
  refine sx_loop2 (fun (h : sw_H) (u : Int) (p : Int) => (cK prI h0 h) ∧ (0 ≤ p) ∧ (F6 h0 h) ∧ (kLb n k0 h) ∧ (kU n k0 h p) ∧ (imp (u = 0) (kF n h))) (fun (h : sw_H) (u : Int) (p : Int) => (364 - p).toNat) (fun (h : sw_H) (u : Int) (p : Int) => sw_E G NH SH (d + 2) mX6_reckonCosts 20 [some (sw_r 182), some (sw_i t), some (sw_i u), some (sw_i p), none, none, none, none] [] h (sw_Qv (fun h' => cK prI h0 h' ∧ h' 186 (rQ n 0).toNat = 1001 * ((qD n k0 : Nat) : Int)))) ?_ _ _ _ ?_
  · rintro h4 u_5 p_6 ⟨Ih4, jp, jF, jL, jU, ju⟩ ihh4
    try dsimp only at ihh4
    refine sx_iload_n dX6_reckonCosts_20 rfl ?_
    refine sx_sipush dX6_reckonCosts_21 ⟨by decide, by decide, by decide⟩ ?_
    refine sx_icmp_ge (tgt := 147) dX6_reckonCosts_24 (by decide) (fun c7 => ?_) (fun c7 => ?_)
    ·
      refine sx_ret dX6_reckonCosts_147 ?_
      exact ⟨rfl, ⟨Ih4, k_end hn hk jL jU jp (by first | exact Or.inl (by omega) | exact Or.inr (ju (by omega)))⟩⟩
    ·
      refine sx_iload_n dX6_reckonCosts_27 rfl ?_
      refine sx_if_eq (tgt := 147) dX6_reckonCosts_28 (by decide) (fun c8 => ?_) (fun c8 => ?_)
      ·
        refine sx_ret dX6_reckonCosts_147 ?_
        exact ⟨rfl, ⟨Ih4, k_end hn hk jL jU jp (by first | exact Or.inl (by omega) | exact Or.inr (ju (by omega)))⟩⟩
      ·
        refine sx_iconst dX6_reckonCosts_31 ⟨by decide, by decide⟩ ?_
        refine sx_istore_n dX6_reckonCosts_32 (by decide) ?_
        have e82 : h4 182 1 = (qM n : Int) := (jF 182 1 (by decide)).trans hq
        refine sx_aload_n dX6_reckonCosts_33 rfl ?_
        refine sx_getI (k := 1) cl_6 fl_X6_61 dX6_reckonCosts_34 s_182 (by decide) rfl (by decide) ?_
        have r9 : (0 : Int) ≤ h4 182 1 ∧ h4 182 1 ≤ 364 := Ih4.1.1 182 1
        refine sx_iconst dX6_reckonCosts_37 ⟨by decide, by decide⟩ ?_
        refine sx_isub dX6_reckonCosts_38 ?_
        refine sy_topw (by omega) ?_
        refine sy_top (fun v10 ev10 => ?_)
        refine sx_istore dX6_reckonCosts_39 (by decide) ?_
        refine sx_loop2 (fun (h : sw_H) (u : Int) (i : Int) => (cK prI h0 h) ∧ (-1 ≤ i) ∧ (i < (qM n : Int)) ∧ (F6 h0 h) ∧ (kLb n k0 h) ∧ (kP n h4 h i 0 u)) (fun (h : sw_H) (u : Int) (i : Int) => (i + 1).toNat) (fun (h : sw_H) (u : Int) (i : Int) => sw_E G NH SH (d + 2) mX6_reckonCosts 41 [some (sw_r 182), some (sw_i t), some (sw_i u), some (sw_i p_6), some (sw_i i), none, none, none] [] h (sw_Qv (fun h' => cK prI h0 h' ∧ h' 186 (rQ n 0).toNat = 1001 * ((qD n k0 : Nat) : Int)))) ?_ _ _ _ ?_
        · rintro h11 u_12 i_13 ⟨Ih11, ji0, ji1, jF2, jL2, jP⟩ ihh11
          try dsimp only at ihh11
          refine sx_iload dX6_reckonCosts_41 rfl ?_
          refine sx_if_lt (tgt := 141) dX6_reckonCosts_43 (by decide) (fun c14 => ?_) (fun c14 => ?_)
          ·
            refine sx_iinc dX6_reckonCosts_141 (by decide) rfl ?_
            rw [sw_w_id (by omega) (by omega)]
            refine sx_goto (tgt := 20) dX6_reckonCosts_144 (by decide) ?_
            refine sx_kill 4 ?_
            exact ihh4 _ _ _ ⟨Ih11, by omega, by exact jF2, by exact jL2, by exact kU_pass hn hk jU jP (by omega) (by omega), by exact fun q => kF_of jP (by omega) q⟩ (by exact sy_dec (by omega) (by omega))
          ·
            refine sx_aload_n dX6_reckonCosts_46 rfl ?_
            refine sx_getS (k := 0) (t := 183) cl_6 fl_X6_11 dX6_reckonCosts_47 s_182 (by decide) rfl (by decide) ?_
            refine sx_iload dX6_reckonCosts_50 rfl ?_
            refine sy_iaF (F := fun z => (0 : Int) ≤ z ∧ z ≤ 1023) dX6_reckonCosts_52 s_183 (by decide) (by decide) ⟨by omega, by omega⟩ (Ih11.1.1 183 _) (fun r15 => ?_)
            refine sy_top (fun v16 ev16 => ?_)
            refine sx_istore dX6_reckonCosts_53 (by decide) ?_
            have erq : v16 = rQ n (i_13).toNat := by rw [ev16]; exact (jF2 183 _ (by decide)).trans (hQ _ (by omega))
            have rq0 := rQ_rng (k := (i_13).toNat) hn (by omega)
            refine sx_iconst dX6_reckonCosts_55 ⟨by decide, by decide⟩ ?_
            refine sx_istore dX6_reckonCosts_56 (by decide) ?_
            refine sx_loop2 (fun (h : sw_H) (u : Int) (j : Int) => (cK prI h0 h) ∧ (0 ≤ j) ∧ (j ≤ 7) ∧ (F6 h0 h) ∧ (kLb n k0 h) ∧ (kP n h4 h i_13 j u)) (fun (h : sw_H) (u : Int) (j : Int) => (7 - j).toNat) (fun (h : sw_H) (u : Int) (j : Int) => sw_E G NH SH (d + 2) mX6_reckonCosts 58 [some (sw_r 182), some (sw_i t), some (sw_i u), some (sw_i p_6), some (sw_i i_13), some (sw_i v16), some (sw_i j), none] [] h (sw_Qv (fun h' => cK prI h0 h' ∧ h' 186 (rQ n 0).toNat = 1001 * ((qD n k0 : Nat) : Int)))) ?_ _ _ _ ?_
            · rintro h17 u_18 j_19 ⟨Ih17, jj0, jj7, jF3, jL3, jP3⟩ ihh17
              try dsimp only at ihh17
              refine sx_iload dX6_reckonCosts_58 rfl ?_
              refine sx_bipush dX6_reckonCosts_60 ⟨by decide, by decide, by decide⟩ ?_
              refine sx_icmp_ge (tgt := 135) dX6_reckonCosts_62 (by decide) (fun c20 => ?_) (fun c20 => ?_)
              ·
                refine sx_iinc dX6_reckonCosts_135 (by decide) rfl ?_
                rw [sw_w_id (by omega) (by omega)]
                refine sx_goto (tgt := 41) dX6_reckonCosts_138 (by decide) ?_
                refine sx_kill 5 ?_
                refine sx_kill 6 ?_
                exact ihh11 _ _ _ ⟨Ih17, by omega, by omega, by exact jF3, by exact jL3, by exact kP_row hn jP3 (by omega) (by omega)⟩ (by exact sy_dec (by omega) (by omega))
              ·
                refine sx_iload dX6_reckonCosts_65 rfl ?_
                refine sx_iload dX6_reckonCosts_67 rfl ?_
                refine sx_callSi lk_X6_68 dX6_reckonCosts_69 (vs := [_, _]) rfl rfl (Nat.le_of_ble_eq_true rfl) (Nat.le_of_ble_eq_true rfl) rfl (x_X6_shuffle _ Ih17.1 _ _ (by omega) (by omega)) (fun x22 h21 ph21 => ?_)
                obtain ⟨rfl, s_x22⟩ := ph21
                refine sx_istore dX6_reckonCosts_72 (by decide) ?_
                have hz : x22 = cS (rQ n (i_13).toNat) j_19 := by rw [← erq]; exact s_x22
                have zr := cS_rQ (n := n) (i := i_13) (j := j_19) hn (by omega) (by omega)
                rw [← hz] at zr
                refine sx_iload dX6_reckonCosts_74 rfl ?_
                refine sx_iconst dX6_reckonCosts_76 ⟨by decide, by decide⟩ ?_
                refine sx_icmp_eq (tgt := 129) dX6_reckonCosts_77 (by decide) (fun c23 => ?_) (fun c23 => ?_)
                ·
                  have jP4 := kP_skip hn (by omega) (by omega) jP3 hz (by first | exact Or.inl c23 | exact Or.inr (by omega))
                  have jL4 := jL3
                  have jF4 := jF3
                  refine sx_iinc dX6_reckonCosts_129 (by decide) rfl ?_
                  rw [sw_w_id (by omega) (by omega)]
                  refine sx_goto (tgt := 58) dX6_reckonCosts_132 (by decide) ?_
                  refine sx_kill 7 ?_
                  exact ihh17 _ _ _ ⟨Ih17, by omega, by omega, by exact jF4, by exact jL4, by exact jP4⟩ (by exact sy_dec (by omega) (by omega))
                ·
                  have cb := kL_to hn (by omega) (by omega) jL3 hz (by omega)
                  have pb : h17 187 (j_19).toNat = 1001 := (jF3 187 _ (by decide)).trans (hp _ (by omega))
                  have cr : 0 ≤ h17 186 (rQ n (i_13).toNat).toNat ∧ h17 186 (rQ n (i_13).toNat).toNat ≤ 1000000000 := (jL3 (i_13).toNat (by omega)).2
                  have rowc : h17 186 (v16).toNat = h17 186 (rQ n (i_13).toNat).toNat := by rw [erq]
                  refine sx_aload_n dX6_reckonCosts_80 rfl ?_
                  refine sx_getS (k := 4) (t := 186) cl_6 fl_X6_21 dX6_reckonCosts_81 s_182 (by decide) rfl (by decide) ?_
                  refine sx_iload dX6_reckonCosts_84 rfl ?_
                  refine sx_iaload dX6_reckonCosts_86 s_186 (by decide) (by decide) ⟨by omega, by omega⟩ ?_
                  refine sx_aload_n dX6_reckonCosts_87 rfl ?_
                  refine sx_getS (k := 5) (t := 187) cl_6 fl_X6_24 dX6_reckonCosts_88 s_182 (by decide) rfl (by decide) ?_
                  refine sx_iload dX6_reckonCosts_91 rfl ?_
                  refine sx_iaload dX6_reckonCosts_93 s_187 (by decide) (by decide) ⟨by omega, by omega⟩ ?_
                  refine sx_iadd dX6_reckonCosts_94 ?_
                  refine sy_topw (by omega) ?_
                  refine sx_aload_n dX6_reckonCosts_95 rfl ?_
                  refine sx_getS (k := 4) (t := 186) cl_6 fl_X6_21 dX6_reckonCosts_96 s_182 (by decide) rfl (by decide) ?_
                  refine sx_iload dX6_reckonCosts_99 rfl ?_
                  refine sx_iaload dX6_reckonCosts_101 s_186 (by decide) (by decide) ⟨by omega, by omega⟩ ?_
                  refine sx_icmp_ge (tgt := 129) dX6_reckonCosts_102 (by decide) (fun c24 => ?_) (fun c24 => ?_)
                  ·
                    have jP4 := kP_skip hn (by omega) (by omega) jP3 hz (by first | exact Or.inl c24 | exact Or.inr (by omega))
                    have jL4 := jL3
                    have jF4 := jF3
                    refine sx_iinc dX6_reckonCosts_129 (by decide) rfl ?_
                    rw [sw_w_id (by omega) (by omega)]
                    refine sx_goto (tgt := 58) dX6_reckonCosts_132 (by decide) ?_
                    refine sx_kill 7 ?_
                    exact ihh17 _ _ _ ⟨Ih17, by omega, by omega, by exact jF4, by exact jL4, by exact jP4⟩ (by exact sy_dec (by omega) (by omega))
                  ·
                    refine sx_aload_n dX6_reckonCosts_105 rfl ?_
                    refine sx_getS (k := 4) (t := 186) cl_6 fl_X6_21 dX6_reckonCosts_106 s_182 (by decide) rfl (by decide) ?_
                    refine sx_iload dX6_reckonCosts_109 rfl ?_
                    refine sx_aload_n dX6_reckonCosts_111 rfl ?_
                    refine sx_getS (k := 4) (t := 186) cl_6 fl_X6_21 dX6_reckonCosts_112 s_182 (by decide) rfl (by decide) ?_
                    refine sx_iload dX6_reckonCosts_115 rfl ?_
                    refine sx_iaload dX6_reckonCosts_117 s_186 (by decide) (by decide) ⟨by omega, by omega⟩ ?_
                    refine sx_aload_n dX6_reckonCosts_118 rfl ?_
                    refine sx_getS (k := 5) (t := 187) cl_6 fl_X6_24 dX6_reckonCosts_119 s_182 (by decide) rfl (by decide) ?_
                    refine sx_iload dX6_reckonCosts_122 rfl ?_
                    refine sx_iaload dX6_reckonCosts_124 s_187 (by decide) (by decide) ⟨by omega, by omega⟩ ?_
                    refine sx_iadd dX6_reckonCosts_125 ?_
                    refine sy_topw (by omega) ?_
                    refine sy_iastore dX6_reckonCosts_126 s_186 (by decide) (by decide) ⟨by omega, by omega⟩ (fun h25 eh25 => ?_)
                    have Ih25 := Ih17.up eh25 trivial rfl rfl
                    refine sx_iconst dX6_reckonCosts_127 ⟨by decide, by decide⟩ ?_
                    refine sx_istore_n dX6_reckonCosts_128 (by decide) ?_
                    have ls := kP_less (h1 := h25) hn (by omega) (by omega) jL3 jP3 hz (by omega) (by omega) (fun k => by rw [eh25.at 186 k]; simp only [true_and]; by_cases q : (k : Int) = rQ n (i_13).toNat; (rw [if_pos (by omega), if_pos q, pb]); (rw [if_neg (by omega), if_neg q]))
                    have jL4 := ls.1
                    have jP4 := ls.2
                    have jF4 := F6_w jF3 eh25
                    refine sx_iinc dX6_reckonCosts_129 (by decide) rfl ?_
                    rw [sw_w_id (by omega) (by omega)]
                    refine sx_goto (tgt := 58) dX6_reckonCosts_132 (by decide) ?_
                    refine sx_kill 7 ?_
                    exact ihh17 _ _ _ ⟨Ih25, by omega, by omega, by exact jF4, by exact jL4, by exact jP4⟩ (by exact sy_dec (by omega) (by omega))
            · exact ⟨Ih11, by omega, by omega, by exact jF2, by exact jL2, by exact jP⟩
        · exact ⟨Ih4, by omega, by omega, by exact jF, by exact jL, by exact kP_start hn (by omega)⟩
  · exact ⟨Ih3, by omega, by exact jF0, by exact LU.1, by exact LU.2, by exact fun q => absurd q (by decide)⟩
set_option maxRecDepth 20000 in
set_option maxHeartbeats 4000000 in
theorem f_X6_explore {G : sw_G} (d : Nat) {h0 : sw_H} (hJ : cJ h0) (n t : Int) (hn : 0 ≤ n ∧ n ≤ 3) : sw_E G NH SH (d + 3) mX6_explore 0 [some (sw_r 182), some (sw_i n), some (sw_i t), none, none, none, none] [] h0 (sw_Qz (fun z h' => cK prI h0 h' ∧ (z = 1 → ∃ k : Nat, k < qM n.toNat ∧ t = rQ n.toNat k ∧ BK n.toNat h' k) ∧ (z = 0 → ∀ k : Nat, k < qM n.toNat → rQ n.toNat k ≠ t) ∧ (z = 0 → ∃ i : Int, EX n.toNat h' i 0 ∧ h' 182 1 = (qM n.toNat : Int)))) := by
  have hI : cK prI h0 h0 := cK.refl hJ
  have hN : n.toNat < 4 := by omega
  refine sx_aload_n dX6_explore_0 rfl ?_
  refine sx_getS (k := 2) (t := 184) cl_6 fl_X6_15 dX6_explore_1 s_182 (by decide) rfl (by decide) ?_
  refine sx_iconst dX6_explore_4 ⟨by decide, by decide⟩ ?_
  refine sx_callSv lk_X6_55 dX6_explore_5 (vs := [_, _]) rfl rfl (Nat.le_of_ble_eq_true rfl) (Nat.le_of_ble_eq_true rfl) rfl (x_J7_fill_53178_184 _ hI.1 _) (fun h1 ph1 => ?_)
  obtain ⟨Kh1, f_h1⟩ := ph1
  have Ih1 := hI.tr Kh1 sb_prI_prI
  refine sx_aload_n dX6_explore_8 rfl ?_
  refine sx_iconst dX6_explore_9 ⟨by decide, by decide⟩ ?_
  refine sy_putI (k := 1) cl_6 fl_X6_61 dX6_explore_10 s_182 (by decide) rfl (by decide) rfl rfl (fun h3 eh3 => ?_)
  have Ih3 := Ih1.up eh3 (show (0 : Int) ≤ _ ∧ _ ≤ (364 : Int) from ⟨by omega, by omega⟩) rfl rfl
  have th3_182_1 := eh3.1
  refine sx_aload_n dX6_explore_13 rfl ?_
  refine sx_iload_n dX6_explore_14 rfl ?_
  refine sx_callSi lk_X6_52 dX6_explore_15 (vs := [_]) rfl rfl (Nat.le_of_ble_eq_true rfl) (Nat.le_of_ble_eq_true rfl) rfl (x_X6_firstRow _ Ih3.1 _ (by omega)) (fun x5 h4 ph4 => ?_)
  obtain ⟨rfl, s_x5⟩ := ph4
  have f_x5 := rQ_rng (k := 0) hN (q_0 hN).2.2.1
  rw [← rQ_0 hn, ← s_x5] at f_x5
  refine sx_iconst dX6_explore_18 ⟨by decide, by decide⟩ ?_
  refine sx_iconst dX6_explore_19 ⟨by decide, by decide⟩ ?_
  refine sx_callVv lk_X6_64 cl_6 s_182 (by decide) dX6_explore_20 (vs := [_, _, _]) rfl rfl (Nat.le_of_ble_eq_true rfl) (Nat.le_of_ble_eq_true rfl) rfl (x_X6_meet _ Ih3.1 _ _ _ (by omega) (by omega) (by omega)) (fun h6 ph6 => ?_)
  obtain ⟨Kh6, a_h6, b_h6, c_h6, e_h6⟩ := ph6
  have Ih6 := Ih3.tr Kh6 sb_prI_prI
  refine sx_iconst dX6_explore_23 ⟨by decide, by decide⟩ ?_
  refine sx_istore_n dX6_explore_24 (by decide) ?_
  have E0 : EX n.toNat h6 0 0 := EX_init hN (s_x5.trans (rQ_0 hn)) eh3.1 (fun k hk => by rw [eh3.2 184 k (by omega)]; exact f_h1 k hk) a_h6 b_h6 c_h6
  refine sx_loop1 (fun (h : sw_H) (i : Int) => (cK prI h0 h) ∧ (0 ≤ i) ∧ (EX n.toNat h i 0) ∧ (∀ k : Nat, (k : Int) < i → rQ n.toNat k ≠ t)) (fun (h : sw_H) (i : Int) => (364 - i).toNat) (fun (h : sw_H) (i : Int) => sw_E G NH SH (d + 3) mX6_explore 25 [some (sw_r 182), some (sw_i n), some (sw_i t), some (sw_i i), none, none, none] [] h (sw_Qz (fun z h' => cK prI h0 h' ∧ (z = 1 → ∃ k : Nat, k < qM n.toNat ∧ t = rQ n.toNat k ∧ BK n.toNat h' k) ∧ (z = 0 → ∀ k : Nat, k < qM n.toNat → rQ n.toNat k ≠ t) ∧ (z = 0 → ∃ i : Int, EX n.toNat h' i 0 ∧ h' 182 1 = (qM n.toNat : Int))))) ?_ _ _ ?_
  · rintro h8 i_9 ⟨Ih8, ji, jE, jn⟩ ihh8
    try dsimp only at ihh8
    refine sx_iload_n dX6_explore_25 rfl ?_
    refine sx_aload_n dX6_explore_26 rfl ?_
    refine sx_getI (k := 1) cl_6 fl_X6_61 dX6_explore_27 s_182 (by decide) rfl (by decide) ?_
    have r10 : (0 : Int) ≤ h8 182 1 ∧ h8 182 1 ≤ 364 := Ih8.1.1 182 1
    refine sx_icmp_ge (tgt := 107) dX6_explore_30 (by decide) (fun c11 => ?_) (fun c11 => ?_)
    ·
      have ea := EX_all hN jE (by omega)
      refine sx_iconst dX6_explore_107 ⟨by decide, by decide⟩ ?_
      refine sx_ireturn dX6_explore_108 ?_
      exact ⟨_, rfl, by omega, ⟨Ih8, fun q => absurd q (by decide), fun _ k hk => jn k (by omega), fun _ => ⟨_, jE, ea⟩⟩⟩
    ·
      refine sx_aload_n dX6_explore_33 rfl ?_
      refine sx_getS (k := 0) (t := 183) cl_6 fl_X6_11 dX6_explore_34 s_182 (by decide) rfl (by decide) ?_
      refine sx_iload_n dX6_explore_37 rfl ?_
      refine sy_iaF (F := fun z => (0 : Int) ≤ z ∧ z ≤ 1023) dX6_explore_38 s_183 (by decide) (by decide) ⟨by omega, by omega⟩ (Ih8.1.1 183 _) (fun r12 => ?_)
      refine sy_top (fun v13 ev13 => ?_)
      refine sx_istore dX6_explore_39 (by decide) ?_
      refine sx_iload dX6_explore_41 rfl ?_
      refine sx_iload_n dX6_explore_43 rfl ?_
      refine sx_icmp_ne (tgt := 49) dX6_explore_44 (by decide) (fun c14 => ?_) (fun c14 => ?_)
      ·
        have ewr : v13 = rQ n.toNat (i_9).toNat := by rw [ev13]; exact (jE.2.2.1 (i_9).toNat (by omega)).1
        have jn2 : ∀ k : Nat, (k : Int) < i_9 + 1 → rQ n.toNat k ≠ t := fun k hk => by by_cases q : (k : Int) = i_9; (rw [show k = (i_9).toNat by omega, ← ewr]; exact c14); exact jn k (by omega)
        refine sx_iconst dX6_explore_49 ⟨by decide, by decide⟩ ?_
        refine sx_istore dX6_explore_50 (by decide) ?_
        refine sx_loop1 (fun (h : sw_H) (j : Int) => (cK prI h0 h) ∧ (0 ≤ j) ∧ (j ≤ 7) ∧ (EX n.toNat h i_9 j) ∧ (i_9 < h 182 1)) (fun (h : sw_H) (j : Int) => (7 - j).toNat) (fun (h : sw_H) (j : Int) => sw_E G NH SH (d + 3) mX6_explore 52 [some (sw_r 182), some (sw_i n), some (sw_i t), some (sw_i i_9), some (sw_i v13), some (sw_i j), none] [] h (sw_Qz (fun z h' => cK prI h0 h' ∧ (z = 1 → ∃ k : Nat, k < qM n.toNat ∧ t = rQ n.toNat k ∧ BK n.toNat h' k) ∧ (z = 0 → ∀ k : Nat, k < qM n.toNat → rQ n.toNat k ≠ t) ∧ (z = 0 → ∃ i : Int, EX n.toNat h' i 0 ∧ h' 182 1 = (qM n.toNat : Int))))) ?_ _ _ ?_
        · rintro h15 j_16 ⟨Ih15, jj, jj7, jE2, jiq⟩ ihh15
          try dsimp only at ihh15
          refine sx_iload dX6_explore_52 rfl ?_
          refine sx_bipush dX6_explore_54 ⟨by decide, by decide, by decide⟩ ?_
          refine sx_icmp_ge (tgt := 101) dX6_explore_56 (by decide) (fun c17 => ?_) (fun c17 => ?_)
          ·
            refine sx_iinc dX6_explore_101 (by decide) rfl ?_
            rw [sw_w_id (by omega) (by omega)]
            refine sx_goto (tgt := 25) dX6_explore_104 (by decide) ?_
            refine sx_kill 4 ?_
            refine sx_kill 5 ?_
            exact ihh8 _ _ ⟨Ih15, by omega, by exact EX_row jE2 (by omega), by exact jn2⟩ (by exact sy_dec (by omega) (by omega))
          ·
            refine sx_iload dX6_explore_59 rfl ?_
            refine sx_iload dX6_explore_61 rfl ?_
            refine sx_callSi lk_X6_68 dX6_explore_63 (vs := [_, _]) rfl rfl (Nat.le_of_ble_eq_true rfl) (Nat.le_of_ble_eq_true rfl) rfl (x_X6_shuffle _ Ih15.1 _ _ (by omega) (by omega)) (fun x19 h18 ph18 => ?_)
            obtain ⟨rfl, s_x19⟩ := ph18
            refine sx_istore dX6_explore_66 (by decide) ?_
            have hz : x19 = cS (rQ n.toNat (i_9).toNat) j_16 := by rw [← ewr]; exact s_x19
            have qb := jE2.2.1
            have zr := cS_rQ (n := n.toNat) (i := i_9) (j := j_16) hN (by omega) (by omega)
            rw [← hz] at zr
            refine sx_iload dX6_explore_68 rfl ?_
            refine sx_iconst dX6_explore_70 ⟨by decide, by decide⟩ ?_
            refine sx_icmp_eq (tgt := 95) dX6_explore_71 (by decide) (fun c20 => ?_) (fun c20 => ?_)
            ·
              have jE3 : EX n.toNat h15 i_9 (j_16 + 1) := EX_skip hN jE2 (by omega) (by omega) hz (by first | exact Or.inl c20 | exact Or.inr c20)
              refine sx_iinc dX6_explore_95 (by decide) rfl ?_
              rw [sw_w_id (by omega) (by omega)]
              refine sx_goto (tgt := 52) dX6_explore_98 (by decide) ?_
              refine sx_kill 6 ?_
              exact ihh15 _ _ ⟨Ih15, by omega, by omega, by exact jE3, by omega⟩ (by exact sy_dec (by omega) (by omega))
            ·
              refine sx_aload_n dX6_explore_74 rfl ?_
              refine sx_getS (k := 2) (t := 184) cl_6 fl_X6_15 dX6_explore_75 s_182 (by decide) rfl (by decide) ?_
              refine sx_iload dX6_explore_78 rfl ?_
              refine sx_iaload dX6_explore_80 s_184 (by decide) (by decide) ⟨by omega, by omega⟩ ?_
              refine sx_iconst dX6_explore_81 ⟨by decide, by decide⟩ ?_
              refine sx_icmp_ne (tgt := 95) dX6_explore_82 (by decide) (fun c21 => ?_) (fun c21 => ?_)
              ·
                have jE3 : EX n.toNat h15 i_9 (j_16 + 1) := EX_skip hN jE2 (by omega) (by omega) hz (by first | exact Or.inl c21 | exact Or.inr c21)
                refine sx_iinc dX6_explore_95 (by decide) rfl ?_
                rw [sw_w_id (by omega) (by omega)]
                refine sx_goto (tgt := 52) dX6_explore_98 (by decide) ?_
                refine sx_kill 6 ?_
                exact ihh15 _ _ ⟨Ih15, by omega, by omega, by exact jE3, by omega⟩ (by exact sy_dec (by omega) (by omega))
              ·
                have hv : h15 184 (x19).toNat = -1 := c21
                have nw := EX_new hN jE2 (by omega) (by omega) hz (by omega) hv
                have nw1 := nw.1
                have q36 := (q_0 hN).2.2.2
                refine sx_aload_n dX6_explore_85 rfl ?_
                refine sx_iload dX6_explore_86 rfl ?_
                refine sx_iload dX6_explore_88 rfl ?_
                refine sx_iload dX6_explore_90 rfl ?_
                refine sx_callVv lk_X6_64 cl_6 s_182 (by decide) dX6_explore_92 (vs := [_, _, _]) rfl rfl (Nat.le_of_ble_eq_true rfl) (Nat.le_of_ble_eq_true rfl) rfl (x_X6_meet _ Ih15.1 _ _ _ (by omega) (by omega) (by omega)) (fun h22 ph22 => ?_)
                obtain ⟨Kh22, a_h22, b_h22, c_h22, e_h22⟩ := ph22
                have Ih22 := Ih15.tr Kh22 sb_prI_prI
                have jE3 : EX n.toNat h22 i_9 (j_16 + 1) := EX_meet hN jE2 (by omega) (by omega) hz (by omega) hv ewr a_h22 b_h22 c_h22 e_h22
                refine sx_iinc dX6_explore_95 (by decide) rfl ?_
                rw [sw_w_id (by omega) (by omega)]
                refine sx_goto (tgt := 52) dX6_explore_98 (by decide) ?_
                refine sx_kill 6 ?_
                exact ihh15 _ _ ⟨Ih22, by omega, by omega, by exact jE3, by omega⟩ (by exact sy_dec (by omega) (by omega))
        · exact ⟨Ih8, by omega, by omega, by exact jE, by omega⟩
      ·
        have ewr : v13 = rQ n.toNat (i_9).toNat := by rw [ev13]; exact (jE.2.2.1 (i_9).toNat (by omega)).1
        have etq : t = rQ n.toNat (i_9).toNat := by rw [← ewr]; exact c14.symm
        have kq : (i_9).toNat < qM n.toNat := by have := jE.2.1; omega
        refine sx_iconst dX6_explore_47 ⟨by decide, by decide⟩ ?_
        refine sx_ireturn dX6_explore_48 ?_
        exact ⟨_, rfl, by omega, ⟨Ih8, fun _ => ⟨_, kq, etq, EX_BK jE (by omega)⟩, fun q => absurd q (by decide), fun q => absurd q (by decide)⟩⟩
  · exact ⟨Ih6, by omega, by exact E0, by (intro k hk; omega)⟩
set_option maxRecDepth 20000 in
set_option maxHeartbeats 4000000 in
theorem f_X6_findCheapest_1 {G : sw_G} (d : Nat) {h0 : sw_H} (hJ : cJ h0) (n t r : Int) (hT : (TK n r ∧ t = rowE r) ∨ (¬ TK n r ∧ t = -1)) (htk : ∀ k : Nat, k < 7 → h0 12 k = 1) : sw_E G NH SH (d + 4) mX6_findCheapest 0 [some (sw_r 182), some (sw_i n), some (sw_i t), some (sw_r 12), none] [] h0 (sw_Qi (fun z h' => cK prH h0 h' ∧ z = XT n r)) := by
  have hI : cK prH h0 h0 := cK.refl hJ
  refine sx_aload_n dX6_findCheapest_0 rfl ?_
  refine sx_iconst dX6_findCheapest_1 ⟨by decide, by decide⟩ ?_
  refine sy_putI (k := 7) cl_6 fl_X6_40 dX6_findCheapest_2 s_182 (by decide) rfl (by decide) rfl rfl (fun h1 eh1 => ?_)
  have Ih1 := hI.up eh1 (show (0 : Int) ≤ _ ∧ _ ≤ (364 : Int) from ⟨by omega, by omega⟩) rfl rfl
  refine sx_iload_n dX6_findCheapest_5 rfl ?_
  refine sx_iconst dX6_findCheapest_6 ⟨by decide, by decide⟩ ?_
  refine sx_icmp_ne (tgt := 12) dX6_findCheapest_7 (by decide) (fun c2 => ?_) (fun c2 => ?_)
  ·
    obtain ⟨T, et, tr, hn3⟩ := T_yes hT c2
    refine sx_aload_n dX6_findCheapest_12 rfl ?_
    refine sx_iload_n dX6_findCheapest_13 rfl ?_
    refine sx_iconst dX6_findCheapest_14 ⟨by decide, by decide⟩ ?_
    refine sx_callVz lk_X6_44 cl_6 s_182 (by decide) dX6_findCheapest_15 (vs := [_, _]) rfl rfl (Nat.le_of_ble_eq_true rfl) (Nat.le_of_ble_eq_true rfl) rfl (f_X6_explore _ Ih1.1 _ _ (by omega)) (fun x4 h3 zx4 ph3 => ?_)
    obtain ⟨Kh3, s_h3, u_h3, v_h3⟩ := ph3
    have Ih3 := Ih1.tr Kh3 sb_prH_prI
    have z0_x4 : x4 = 0 := by rcases zx4 with q | q; (exact q); (obtain ⟨kx, hkx, ekx, -⟩ := s_h3 q; clear s_h3 u_h3 v_h3; have r := rQ_rng (n := n.toNat) (by omega) hkx; omega)
    obtain ⟨iE, jE, ea⟩ := v_h3 z0_x4
    clear s_h3 u_h3 v_h3
    refine sx_pop dX6_findCheapest_18 ?_
    refine sx_aload_n dX6_findCheapest_19 rfl ?_
    refine sx_getS (k := 2) (t := 184) cl_6 fl_X6_15 dX6_findCheapest_20 s_182 (by decide) rfl (by decide) ?_
    refine sx_iload_n dX6_findCheapest_23 rfl ?_
    refine sx_iaload dX6_findCheapest_24 s_184 (by decide) (by decide) ⟨by omega, by omega⟩ ?_
    refine sx_iconst dX6_findCheapest_25 ⟨by decide, by decide⟩ ?_
    refine sx_icmp_ne (tgt := 31) dX6_findCheapest_26 (by decide) (fun c5 => ?_) (fun c5 => ?_)
    ·
      obtain ⟨k, hk, ek⟩ := jE.2.2.2.1 t.toNat (by omega) c5
      have hkq : k < qM n.toNat := by omega
      have ekt : t = rQ n.toNat k := by omega
      have hQ0 : ∀ j : Nat, j < qM n.toNat → h3 183 j = rQ n.toNat j := fun j hj => (jE.2.2.1 j (by omega)).1
      refine sx_iconst dX6_findCheapest_31 ⟨by decide, by decide⟩ ?_
      refine sx_istore dX6_findCheapest_32 (by decide) ?_
      refine sx_loop1 (fun (h : sw_H) (i : Int) => (cK prH h0 h) ∧ (0 ≤ i) ∧ (h 182 1 = (qM n.toNat : Int)) ∧ (∀ j : Nat, j < qM n.toNat → h 183 j = rQ n.toNat j) ∧ (∀ j : Nat, (j : Int) < i → h 187 j = 1001)) (fun (h : sw_H) (i : Int) => (7 - i).toNat) (fun (h : sw_H) (i : Int) => sw_E G NH SH (d + 4) mX6_findCheapest 34 [some (sw_r 182), some (sw_i n), some (sw_i t), some (sw_r 12), some (sw_i i)] [] h (sw_Qi (fun z h' => cK prH h0 h' ∧ z = XT n r))) ?_ _ _ ?_
      · rintro h6 i_7 ⟨Ih6, ji, jq, jQ, jp⟩ ihh6
        try dsimp only at ihh6
        refine sx_iload dX6_findCheapest_34 rfl ?_
        refine sx_bipush dX6_findCheapest_36 ⟨by decide, by decide, by decide⟩ ?_
        refine sx_icmp_ge (tgt := 64) dX6_findCheapest_38 (by decide) (fun c8 => ?_) (fun c8 => ?_)
        ·
          refine sx_aload_n dX6_findCheapest_64 rfl ?_
          refine sx_iload_n dX6_findCheapest_65 rfl ?_
          refine sx_callVv lk_X6_71 cl_6 s_182 (by decide) dX6_findCheapest_66 (vs := [_]) rfl rfl (Nat.le_of_ble_eq_true rfl) (Nat.le_of_ble_eq_true rfl) rfl (f_X6_reckonCosts _ Ih6.1 _ n.toNat k (by omega) hkq ekt jq jQ (fun j hj => jp j (by omega))) (fun h9 ph9 => ?_)
          obtain ⟨Kh9, c_h9⟩ := ph9
          have Ih9 := Ih6.tr Kh9 sb_prH_prI
          refine sx_aload_n dX6_findCheapest_69 rfl ?_
          refine sx_iload_n dX6_findCheapest_70 rfl ?_
          refine sx_callSi lk_X6_52 dX6_findCheapest_71 (vs := [_]) rfl rfl (Nat.le_of_ble_eq_true rfl) (Nat.le_of_ble_eq_true rfl) rfl (x_X6_firstRow _ Ih9.1 _ (by omega)) (fun x12 h11 ph11 => ?_)
          obtain ⟨rfl, s_x12⟩ := ph11
          have f_x12 := rQ_rng (n := n.toNat) (k := 0) (by omega) (q_0 (n := n.toNat) (by omega)).2.2.1
          rw [← rQ_0 hn3, ← s_x12] at f_x12
          refine sx_iload_n dX6_findCheapest_74 rfl ?_
          refine sx_callVv lk_X6_75 cl_6 s_182 (by decide) dX6_findCheapest_75 (vs := [_, _]) rfl rfl (Nat.le_of_ble_eq_true rfl) (Nat.le_of_ble_eq_true rfl) rfl (f_X6_walkCheaply _ Ih9.1 _ _ (by omega)) (fun h13 ph13 => ?_)
          obtain ⟨Kh13, c_h13⟩ := ph13
          have Ih13 := Ih9.tr Kh13 sb_prH_prH
          refine sx_aload_n dX6_findCheapest_78 rfl ?_
          refine sx_getS (k := 4) (t := 186) cl_6 fl_X6_21 dX6_findCheapest_79 s_182 (by decide) rfl (by decide) ?_
          refine sx_iload_n dX6_findCheapest_82 rfl ?_
          refine sx_callSi lk_X6_52 dX6_findCheapest_83 (vs := [_]) rfl rfl (Nat.le_of_ble_eq_true rfl) (Nat.le_of_ble_eq_true rfl) rfl (x_X6_firstRow _ Ih13.1 _ (by omega)) (fun x16 h15 ph15 => ?_)
          obtain ⟨rfl, s_x16⟩ := ph15
          have f_x16 := rQ_rng (n := n.toNat) (k := 0) (by omega) (q_0 (n := n.toNat) (by omega)).2.2.1
          rw [← rQ_0 hn3, ← s_x16] at f_x16
          refine sx_iaload dX6_findCheapest_86 s_186 (by decide) (by decide) ⟨by omega, by omega⟩ ?_
          have eXT := XT_cls T hkq (et.symm.trans ekt)
          have xe : h13 186 (x16).toNat = 1001 * XT n r := by rw [show x16 = rQ n.toNat 0 from s_x16.trans (rQ_0 hn3), c_h13, c_h9, eXT]
          have xb := XT_b n r
          have xn : 0 ≤ XT n r := by rw [← eXT]; omega
          refine sx_sipush dX6_findCheapest_87 ⟨by decide, by decide, by decide⟩ ?_
          refine sx_idiv dX6_findCheapest_90 (by omega) ?_
          refine sx_ireturn dX6_findCheapest_91 ?_
          exact ⟨_, rfl, ⟨Ih13, dvK xe ⟨xn, xb.2⟩⟩⟩
        ·
          have t12 : h6 12 (i_7).toNat = 1 := (Ih6.2 12 _ rfl).trans (htk _ (by omega))
          refine sx_aload_n dX6_findCheapest_41 rfl ?_
          refine sx_getS (k := 5) (t := 187) cl_6 fl_X6_24 dX6_findCheapest_42 s_182 (by decide) rfl (by decide) ?_
          refine sx_iload dX6_findCheapest_45 rfl ?_
          refine sx_aload_n dX6_findCheapest_47 rfl ?_
          refine sx_iload dX6_findCheapest_48 rfl ?_
          refine sx_iaload dX6_findCheapest_50 s_12 (by decide) (by decide) ⟨by omega, by omega⟩ ?_
          refine sx_sipush dX6_findCheapest_51 ⟨by decide, by decide, by decide⟩ ?_
          refine sx_imul dX6_findCheapest_54 ?_
          refine sy_topw (by omega) ?_
          refine sx_iconst dX6_findCheapest_55 ⟨by decide, by decide⟩ ?_
          refine sx_iadd dX6_findCheapest_56 ?_
          refine sy_topw (by omega) ?_
          refine sy_iastore dX6_findCheapest_57 s_187 (by decide) (by decide) ⟨by omega, by omega⟩ (fun h17 eh17 => ?_)
          have Ih17 := Ih6.up eh17 trivial rfl rfl
          have jp2 : ∀ j : Nat, (j : Int) < i_7 + 1 → h17 187 j = 1001 := fun j hj => by rw [eh17.at 187 j]; simp only [true_and]; by_cases q : j = (i_7).toNat; (rw [if_pos q]; omega); (rw [if_neg q]; exact jp j (by omega))
          have jQ2 : ∀ j : Nat, j < qM n.toNat → h17 183 j = rQ n.toNat j := fun j hj => (eh17.2 183 j (by omega)).trans (jQ j hj)
          have jq2 : h17 182 1 = (qM n.toNat : Int) := (eh17.2 182 1 (by omega)).trans jq
          refine sx_iinc dX6_findCheapest_58 (by decide) rfl ?_
          rw [sw_w_id (by omega) (by omega)]
          refine sx_goto (tgt := 34) dX6_findCheapest_61 (by decide) ?_
          exact ihh6 _ _ ⟨Ih17, by omega, by exact jq2, by exact jQ2, by exact jp2⟩ (by exact sy_dec (by omega) (by omega))
      · exact ⟨Ih3, by omega, by exact ea, by exact hQ0, by (intro j hj; omega)⟩
    ·
      have cv := c5
      refine sx_iconst dX6_findCheapest_29 ⟨by decide, by decide⟩ ?_
      refine sx_ireturn dX6_findCheapest_30 ?_
      exact ⟨_, rfl, ⟨Ih3, XT_cno (fun k hk q => by have a := (jE.2.2.1 k (by omega)).2.1; rw [q, ← et, cv] at a; omega)⟩⟩
  ·
    refine sx_iconst dX6_findCheapest_10 ⟨by decide, by decide⟩ ?_
    refine sx_ireturn dX6_findCheapest_11 ?_
    exact ⟨_, rfl, ⟨Ih1, T_no hT (by assumption)⟩⟩
set_option maxRecDepth 20000 in
set_option maxHeartbeats 4000000 in
theorem f_X11_cheapest {G : sw_G} (d : Nat) {h0 : sw_H} (hJ : cJ h0) (y1 y2 : Int) (hF : FC h0) : sw_E G NH SH (d + 5) mX11_cheapest 0 [some (sw_r 0), some (sw_i y1), some (sw_i y2)] [] h0 (sw_Qi (fun z h' => cK pr1 h0 h' ∧ z = XT y1 y2)) := by
  have hI : cK pr1 h0 h0 := cK.refl hJ
  obtain ⟨hc, f0, f7, f12, f13, f14, w0, i0, u0, l0, d1, d2, d3, b7, s8, zs, tk⟩ := hF
  refine sx_aload_n dX11_cheapest_0 rfl ?_
  refine sx_getS (k := 10) (t := 182) cl_11 fl_X11_61 dX11_cheapest_1 s_0 (by decide) rfl (by decide) ?_
  refine sx_iload_n dX11_cheapest_4 rfl ?_
  refine sx_aload_n dX11_cheapest_5 rfl ?_
  refine sx_getS (k := 10) (t := 182) cl_11 fl_X11_61 dX11_cheapest_6 s_0 (by decide) rfl (by decide) ?_
  refine sx_iload_n dX11_cheapest_9 rfl ?_
  refine sx_iload_n dX11_cheapest_10 rfl ?_
  refine sx_callVi lk_X11_221 cl_6 s_182 (by decide) dX11_cheapest_11 (vs := [_, _]) rfl rfl (Nat.le_of_ble_eq_true rfl) (Nat.le_of_ble_eq_true rfl) rfl (x_X6_rowOf _ hI.1 _ _) (fun x2 h1 ph1 => ?_)
  obtain ⟨rfl, s_x2⟩ := ph1
  refine sx_aload_n dX11_cheapest_14 rfl ?_
  refine sx_getR (k := 1) (t := 1) cl_11 fl_X11_10 dX11_cheapest_15 s_0 (by decide) rfl (by decide) (by omega) ?_
  refine sx_getS (k := 15) (t := 12) cl_0 fl_X11_227 dX11_cheapest_18 s_1 (by decide) rfl (by decide) ?_
  refine sx_callVi lk_X11_230 cl_6 s_182 (by decide) dX11_cheapest_21 (vs := [_, _, _]) rfl rfl (Nat.le_of_ble_eq_true rfl) (Nat.le_of_ble_eq_true rfl) rfl (f_X6_findCheapest_1 _ hI.1 _ _ y2 s_x2 (fun k hk => by have q := tk k (by omega); omega)) (fun x4 h3 ph3 => ?_)
  obtain ⟨Kh3, x_h3⟩ := ph3
  have Ih3 := hI.tr Kh3 sb_pr1_prH
  refine sx_ireturn dX11_cheapest_24 ?_
  exact ⟨_, rfl, ⟨Ih3, x_h3 ⟩⟩

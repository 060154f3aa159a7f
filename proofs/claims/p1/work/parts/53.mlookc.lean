-- ===== the look's contract =====
def lkC (h : sw_H) (s v : Int) : Prop := 0 ≤ s ∧ s ≤ 7 ∧ (s = 0 → 0 ≤ v ∧ v ≤ 14) ∧ (s = 1 → 0 ≤ v) ∧ (s = 2 → 0 ≤ v ∧ v < 6 ∧ 0 ≤ kN h v ∧ kN h v ≤ 6 ∧ -12 ≤ kL h v ∧ kL h v ≤ 12 ∧ 0 ≤ kH h v ∧ kH h v ≤ 12 ∧ 0 ≤ kN h v + kL h v)
def lkQ (b : Nat) (h0 : sw_H) (f : Int) (s v : Nat → Int) (i : Nat) : Option sw_V → sw_H → Prop := sw_Qi (fun z h' => mK (WLk b) h0 h' ∧ (z = 0 ∨ z = 6 ∨ z = 7) ∧ (z = 0 → ∃ H' U', LI h' f s v (i + 1) H' U') ∧ GP h0 h' f s i)
theorem GP_flat {h0 h' : sw_H} {f : Int} {s : Nat → Int} {i : Nat} (hf : 0 ≤ f) (hs : s i ≠ 4 ∧ s i ≠ 5 ∧ s i ≠ 7) (g : (∀ k : Nat, (k : Int) ≠ f + i → h' 243 k = h0 243 k) ∧ (h0 224 51 ≠ 0 → ∀ k : Nat, h' 243 k = h0 243 k)) : GP h0 h' f s i :=
  ⟨fun k h1 _ => g.1 k h1, fun p r _ q => by omega, fun p r _ q => by omega, fun q _ _ => g.2 q _⟩
theorem c_X12_look {G : sw_G} (d : Nat) {h0 : sw_H} (hJ : mI h0) (b : Nat) (f : Int) (s v : Nat → Int) (i : Nat) (H U : Nat → Int) (y1 y2 y3 : Int) (e1 : y1 = s i) (e2 : y2 = v i) (e3 : y3 = f + i) (hL : LI h0 f s v i H U) (hS : tS s i) (hC : lkC h0 (s i) (v i)) (hf : b ≤ 1 ∧ 60 * (1 - (b : Int)) ≤ f ∧ f + i < 60 * (1 - (b : Int)) + 60) :
    sw_E G NH SH (d + 2) mX12_look 0 [some (sw_r 224), some (sw_i y1), some (sw_i y2), some (sw_i y3)] [] h0 (lkQ b h0 f s v i) := by
  have hL' := hL
  obtain ⟨l1, l2, l3, l4, l5, l6, l7, l8, l9, l10, l11, l12, l13⟩ := hL
  have li := l11 i (Nat.le_refl i)
  obtain ⟨c0, c7, cc0, cc1, cc2⟩ := hC
  have hf0 : 0 ≤ f := by omega
  -- the inner open one, where there must be one
  have top : s i = 4 ∨ s i = 5 ∨ s i = 7 → ∃ p r, tT s i = p :: r ∧ h0 253 (h0 224 55).toNat = f + p ∧ p < i ∧ 1 ≤ h0 224 55 := by
    intro q
    have : ∃ p r, tT s i = p :: r := by
      rcases q with q | q | q
      · obtain ⟨p, r, e, -⟩ := hS.1 q; exact ⟨p, r, e⟩
      · obtain ⟨p, r, e, -⟩ := hS.2.1 q; exact ⟨p, r, e⟩
      · obtain ⟨p, r, e, -⟩ := hS.2.2.1 q; exact ⟨p, r, e⟩
    obtain ⟨p, r, e⟩ := this
    have hl : (tT s i).length = r.length + 1 := by rw [e]; simp
    have hi : (h0 224 55).toNat = r.length + 1 := by omega
    exact ⟨p, r, e, by rw [hi]; exact (l13 [] p r e).1, (tT_head e).1, by omega⟩
  have hcase : y1 = 0 ∨ y1 = 1 ∨ y1 = 2 ∨ y1 = 3 ∨ y1 = 4 ∨ y1 = 5 ∨ y1 = 6 ∨ y1 = 7 := by omega
  rcases hcase with rfl | rfl | rfl | rfl | rfl | rfl | rfl | rfl
  · clear top
    have cc := cc0 (by omega)
    refine (c_X12_look_0 d hJ b y2 y3 (by omega) (by omega) (by omega)).mono ?_
    rintro r h' ⟨z, rfl, K, cz, xz, oz, a2, a3, a4, a5, a6, a7, gz⟩
    refine ⟨z, rfl, K, cz.1, fun q => ?_, GP_flat hf0 (by omega) (by rw [← e3]; exact gz)⟩
    have x := xz q
    have c := cz.2.2.2 q
    refine ⟨_, _, LI_flat hL' K (by omega) (by omega) (by omega) (by have hp : 0 ≤ ld y2 := (by unfold ld; omega); omega) oz (fun a k p1 p2 => ?_) ?_⟩
    · have : a = 252 ∨ a = 253 ∨ a = 254 ∨ a = 255 ∨ a = 256 ∨ a = 257 := by omega
      rcases this with rfl | rfl | rfl | rfl | rfl | rfl
      · exact a2 k
      · exact a3 k
      · exact a4 k
      · exact a5 k
      · exact a6 k
      · exact a7 k
    · subst e2
      refine tL_of (s i) rfl ?_ ?_ ?_ ?_ ?_ ?_ ?_ ?_ <;> (intro q2; first | omega | skip)
      rw [nx_new, nx_new, nx_le (Nat.le_refl i), nx_le (Nat.le_refl i)]
      exact ⟨by omega, by omega, by omega, fun q8 => by have := x.2.2.2.2.1 q8; omega⟩
  · clear top
    have cc := cc1 (by omega)
    refine (c_X12_look_1 d hJ b y2 y3 (by omega) (by omega) (by omega)).mono ?_
    rintro r h' ⟨z, rfl, K, cz, xz, oz, a2, a3, a4, a5, a6, a7, gz⟩
    refine ⟨z, rfl, K, cz.1, fun q => ?_, GP_flat hf0 (by omega) (by rw [← e3]; exact gz)⟩
    have x := xz q
    have c := cz.2.2.2 q
    refine ⟨_, _, LI_flat hL' K (by omega) (by omega) (by omega) (by omega) oz (fun a k p1 p2 => ?_) ?_⟩
    · have : a = 252 ∨ a = 253 ∨ a = 254 ∨ a = 255 ∨ a = 256 ∨ a = 257 := by omega
      rcases this with rfl | rfl | rfl | rfl | rfl | rfl
      · exact a2 k
      · exact a3 k
      · exact a4 k
      · exact a5 k
      · exact a6 k
      · exact a7 k
    · refine tL_of (s i) rfl ?_ ?_ ?_ ?_ ?_ ?_ ?_ ?_ <;> (intro q2; first | omega | skip)
      rw [nx_new, nx_new, nx_le (Nat.le_refl i), nx_le (Nat.le_refl i)]
      omega
  · clear top
    subst e2
    have cc := cc2 (by omega)
    unfold kN kL kH at cc
    refine (c_X12_look_2 d hJ b (v i) y3 (by omega) (by omega) (by omega)).mono ?_
    rintro r h' ⟨z, rfl, K, cz, xz, oz, a2, a3, a4, a5, a6, a7, gz⟩
    refine ⟨z, rfl, K, cz.1, fun q => ?_, GP_flat hf0 (by omega) (by rw [← e3]; exact gz)⟩
    have x := xz q
    have c := cz.2.2.2 q
    refine ⟨_, _, LI_flat hL' K (by omega) (by omega) (by omega) (by omega) oz (fun a k p1 p2 => ?_) ?_⟩
    · have : a = 252 ∨ a = 253 ∨ a = 254 ∨ a = 255 ∨ a = 256 ∨ a = 257 := by omega
      rcases this with rfl | rfl | rfl | rfl | rfl | rfl
      · exact a2 k
      · exact a3 k
      · exact a4 k
      · exact a5 k
      · exact a6 k
      · exact a7 k
    · refine tL_of (s i) rfl ?_ ?_ ?_ ?_ ?_ ?_ ?_ ?_ <;> (intro q2; first | omega | skip)
      rw [nx_new, nx_new, nx_le (Nat.le_refl i), nx_le (Nat.le_refl i)]
      unfold kN kL kH
      omega
  · clear top
    have hl := hS.2.2.2 (Or.inl (by omega))
    refine (c_X12_look_3 d hJ b y2 y3 (by omega) (by omega)).mono ?_
    rintro r h' ⟨z, rfl, K, cz, xz, oz, a2, a3, a4, a5, a6, a7, gz⟩
    refine ⟨z, rfl, K, cz.1, fun q => ?_, GP_flat hf0 (by omega) (by rw [← e3]; exact gz)⟩
    have c := cz.2.2.2 q
    refine ⟨_, _, LI_open hL' K (by omega) hS (by omega) (by omega) oz (by rw [← e1]; exact a2) (by rw [← e3]; exact a3) a4 a5 a6 a7⟩
  · obtain ⟨p, r, e, eo, hp, ho⟩ := top (by omega)
    refine (c_X12_look_4 d hJ b y2 y3 (by omega) (by omega) (by omega)).mono ?_
    rintro _ h' ⟨z, rfl, K, cz, xz, oz, a2, a3, a4, a5, a6, a7, gz⟩
    rw [eo, e3] at gz
    refine ⟨z, rfl, K, cz.1, fun q => ?_, ?_⟩
    · have c := cz.2.2.2 q
      exact ⟨_, _, LI_else hL' K (by omega) e (by omega) xz oz a2 (by rw [← e3]; exact a3) a4 a5 a6 a7⟩
    · refine ⟨fun k h1 h2 => ?_, fun p' r' e' _ => ?_, fun p' r' _ q => by omega, fun q _ _ => ?_⟩
      · rw [gz.1 k h1, if_neg (h2 p r e (by omega))]
      · rw [e] at e'
        simp only [List.cons.injEq] at e'
        obtain ⟨rfl, rfl⟩ := e'
        rw [gz.1 _ (by omega), if_pos (by omega)]
      · rw [gz.2 q, if_neg (by omega)]
  · obtain ⟨p, r, e, eo, hp, ho⟩ := top (by omega)
    refine (c_X12_look_5 d hJ b y2 y3 (by omega) (by omega) (by omega)).mono ?_
    rintro _ h' ⟨z, rfl, K, cz, xz, oz, a2, a3, a4, a5, a6, a7, gz⟩
    rw [eo, e3] at gz
    refine ⟨z, rfl, K, cz.1, fun q => ?_, ?_⟩
    · have c := cz.2.2.2 q
      refine ⟨_, _, LI_shut hL' K (by omega) hS e (by omega) (by omega) oz (xz.2.2 q) (fun a k p1 p2 => ?_)⟩
      have : a = 252 ∨ a = 253 ∨ a = 254 ∨ a = 255 ∨ a = 256 ∨ a = 257 := by omega
      rcases this with rfl | rfl | rfl | rfl | rfl | rfl
      · exact a2 k
      · exact a3 k
      · exact a4 k
      · exact a5 k
      · exact a6 k
      · exact a7 k
    · refine ⟨fun k h1 h2 => ?_, fun p' r' e' _ => ?_, fun p' r' e' _ => ?_, fun q _ _ => by omega⟩
      · rw [gz k, if_neg h1, if_neg (h2 p r e (by omega))]
      · rw [e] at e'
        simp only [List.cons.injEq] at e'
        obtain ⟨rfl, rfl⟩ := e'
        rw [gz _, if_neg (by omega), if_pos (by omega)]
      · rw [e] at e'
        simp only [List.cons.injEq] at e'
        obtain ⟨rfl, rfl⟩ := e'
        rw [gz _, if_pos (by omega)]
  · clear top
    have hl := hS.2.2.2 (Or.inr (by omega))
    refine (c_X12_look_6 d hJ b y2 y3 (by omega) (by omega)).mono ?_
    rintro r h' ⟨z, rfl, K, cz, xz, oz, a2, a3, a4, a5, a6, a7, gz⟩
    refine ⟨z, rfl, K, cz.1, fun q => ?_, GP_flat hf0 (by omega) (by rw [← e3]; exact gz)⟩
    have c := cz.2.2.2 q
    refine ⟨_, _, LI_open hL' K (by omega) hS (by omega) (by omega) oz (by rw [← e1]; exact a2) (by rw [← e3]; exact a3) a4 a5 a6 a7⟩
  · obtain ⟨p, r, e, eo, hp, ho⟩ := top (by omega)
    refine (c_X12_look_7 d hJ b y2 y3 (by omega) (by omega) (by omega)).mono ?_
    rintro _ h' ⟨z, rfl, K, cz, xz, oz, a2, a3, a4, a5, a6, a7, gz⟩
    rw [eo, e3] at gz
    refine ⟨z, rfl, K, cz.1, fun q => ?_, ?_⟩
    · have c := cz.2.2.2 q
      refine ⟨_, _, LI_shut hL' K (by omega) hS e (by omega) (by omega) oz (xz.2.2 q) (fun a k p1 p2 => ?_)⟩
      have : a = 252 ∨ a = 253 ∨ a = 254 ∨ a = 255 ∨ a = 256 ∨ a = 257 := by omega
      rcases this with rfl | rfl | rfl | rfl | rfl | rfl
      · exact a2 k
      · exact a3 k
      · exact a4 k
      · exact a5 k
      · exact a6 k
      · exact a7 k
    · refine ⟨fun k h1 h2 => ?_, fun p' r' e' _ => ?_, fun p' r' e' _ => ?_, fun q _ _ => by omega⟩
      · rw [gz k, if_neg h1, if_neg (h2 p r e (by omega))]
      · rw [e] at e'
        simp only [List.cons.injEq] at e'
        obtain ⟨rfl, rfl⟩ := e'
        rw [gz _, if_neg (by omega), if_pos (by omega)]
      · rw [e] at e'
        simp only [List.cons.injEq] at e'
        obtain ⟨rfl, rfl⟩ := e'
        rw [gz _, if_pos (by omega)]

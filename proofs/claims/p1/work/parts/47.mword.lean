-- ===== a WORD that the look has found good runs to its end =====
def fS (h : sw_H) (w : Int) : Nat → Int := fun j => sO h w j
def fV (h : sw_H) (w : Int) : Nat → Int := fun j => wO h w j
def fG (h : sw_H) (w : Int) : Nat → Int := fun j => h 243 (60 * h 224 36 + h 233 (6 * h 224 36 + w).toNat + j).toNat - (60 * h 224 36 + h 233 (6 * h 224 36 + w).toNat)
def cN (h : sw_H) (c : Int) : Int := h 235 (6 * h 224 36 + c).toNat
def cL (h : sw_H) (c : Int) : Int := h 236 (6 * h 224 36 + c).toNat
def cH (h : sw_H) (c : Int) : Int := h 237 (6 * h 224 36 + c).toNat
def iC (s v w : Int) : Prop := 0 ≤ s ∧ s ≤ 7 ∧ (s = 0 → 0 ≤ v ∧ v ≤ 14) ∧ (s = 2 → 0 ≤ v ∧ v < w) ∧ (s = 6 → 1 ≤ v ∧ v ≤ 9)
def Sd (s v : Nat → Int) (n : Nat) (cn cl ch : Int → Int) (nd la hi : Int) : Prop := 0 ≤ nd ∧ nd ≤ 6 ∧ 0 ≤ hi ∧ hi ≤ 12 ∧ ∃ H U : Nat → Int, H 0 = 0 ∧ U 0 = 0 ∧ H n = la ∧ U n = 0 ∧ (∀ j, j ≤ n → -nd ≤ H j ∧ H j ≤ hi ∧ 0 ≤ U j ∧ U j ≤ 6) ∧ ∀ j, j < n → tL s v cn cl ch nd hi H U j
def Wd (h : sw_H) (w nd la hi : Int) : Prop := h 233 (6 * h 224 36 + w).toNat + wn h w ≤ 60 ∧ (∀ j : Nat, j < (wn h w).toNat → iC (fS h w j) (fV h w j) w ∧ tS (fS h w) j ∧ tG (fS h w) (fG h w) j) ∧ tT (fS h w) (wn h w).toNat = [] ∧ Sd (fS h w) (fV h w) (wn h w).toNat (cN h) (cL h) (cH h) nd la hi
def Wds (h : sw_H) (w : Int) : Prop := ∀ c, 0 ≤ c → c < w → Wd h c (cN h c) (cL h c) (cH h c)
theorem wn_cd {h h' : sw_H} (e : cdK h h') : wn h' = wn h := by funext w; unfold wn; rw [e 224 36 rfl, e 234 _ rfl]
theorem fS_cd {h h' : sw_H} (e : cdK h h') : fS h' = fS h := by funext w j; unfold fS; rw [sO_cd e]
theorem fV_cd {h h' : sw_H} (e : cdK h h') : fV h' = fV h := by funext w j; unfold fV; rw [wO_cd e]
theorem fG_cd {h h' : sw_H} (e : cdK h h') : fG h' = fG h := by funext w j; unfold fG; rw [e 224 36 rfl, e 233 _ rfl, e 243 _ rfl]
theorem cN_cd {h h' : sw_H} (e : cdK h h') : cN h' = cN h := by funext w; unfold cN; rw [e 224 36 rfl, e 235 _ rfl]
theorem cL_cd {h h' : sw_H} (e : cdK h h') : cL h' = cL h := by funext w; unfold cL; rw [e 224 36 rfl, e 236 _ rfl]
theorem cH_cd {h h' : sw_H} (e : cdK h h') : cH h' = cH h := by funext w; unfold cH; rw [e 224 36 rfl, e 237 _ rfl]
theorem Wd_cd {h h' : sw_H} {w nd la hi : Int} (e : cdK h h') (k : Wd h w nd la hi) : Wd h' w nd la hi := by
  unfold Wd at k ⊢
  rw [wn_cd e, fS_cd e, fV_cd e, fG_cd e, cN_cd e, cL_cd e, cH_cd e, e 224 36 rfl, e 233 _ rfl]
  exact k
theorem Wds_cd {h h' : sw_H} {w : Int} (e : cdK h h') (k : Wds h w) : Wds h' w := by
  intro c h0 h1
  rw [cN_cd e, cL_cd e, cH_cd e]
  exact Wd_cd e (k c h0 h1)
-- a number that falls
def digs (n : Int) (f : Nat → Int) (l0 : Nat) : List Nat → Nat
  | [] => 0
  | a :: r => digs n f l0 r * 1024 + (n - a).toNat * 32 + (f (l0 + r.length)).toNat
theorem digs_congr {n : Int} {f f' : Nat → Int} {l0 : Nat} : ∀ (r : List Nat), (∀ k, k < l0 + r.length → f k = f' k) → digs n f l0 r = digs n f' l0 r
  | [], _ => rfl
  | a :: r, h => by
    simp only [digs]
    rw [digs_congr r (fun k hk => h k (by simp only [List.length_cons]; omega)), h (l0 + r.length) (by simp only [List.length_cons]; omega)]
def mea (n : Int) (f : Nat → Int) (l0 : Nat) (ls : List Nat) (i : Int) : Nat := (digs n f l0 ls * 32 + (n - i).toNat + 1) * 1024 ^ (4 - ls.length)
theorem mea_step {D a b l : Nat} (h : b < a) : (D * 32 + b + 1) * 1024 ^ (4 - l) < (D * 32 + a + 1) * 1024 ^ (4 - l) := (Nat.mul_lt_mul_right (Nat.pow_pos (by decide))).mpr (by omega)
theorem mea_pow {l : Nat} (hl : l ≤ 3) (Y : Nat) : Y * 1024 ^ (4 - l) = (Y * 1024) * 1024 ^ (4 - (l + 1)) := by
  have e : 4 - l = (4 - (l + 1)) + 1 := by omega
  rw [e, Nat.pow_succ, Nat.mul_comm (1024 ^ (4 - (l + 1))) 1024, Nat.mul_assoc]
theorem mea_times {D k k2 c l : Nat} (hl : l ≤ 3) (hc : c ≤ 9) (hk2 : k2 < k) (hk : k ≤ 20) : ((D * 1024 + k * 32 + c) * 32 + k2 + 1) * 1024 ^ (4 - (l + 1)) < (D * 32 + k + 1) * 1024 ^ (4 - l) := by
  rw [mea_pow hl]
  exact (Nat.mul_lt_mul_right (Nat.pow_pos (by decide))).mpr (by omega)
theorem mea_exit {D a k k2 c l : Nat} (hl : l ≤ 3) (hk2 : k2 < k) (ha : k < a) : (D * 32 + k2 + 1) * 1024 ^ (4 - l) < ((D * 1024 + a * 32 + c) * 32 + k + 1) * 1024 ^ (4 - (l + 1)) := by
  rw [mea_pow hl]
  exact (Nat.mul_lt_mul_right (Nat.pow_pos (by decide))).mpr (by omega)
theorem mea_back {D a k k2 c c2 p : Nat} (hc : c2 + 1 ≤ c) (hk2 : k2 ≤ 20) : ((D * 1024 + a * 32 + c2) * 32 + k2 + 1) * 1024 ^ p < ((D * 1024 + a * 32 + c) * 32 + k + 1) * 1024 ^ p := (Nat.mul_lt_mul_right (Nat.pow_pos (by decide))).mpr (by omega)
abbrev WRl : Nat → Nat → Bool := prW [67, 68, 69, 70] [262, 263, 264, 265, 266]
abbrev runE (G : sw_G) (d : Nat) (word : Int) (Q : Option sw_V → sw_H → Prop) (h : sw_H) (w i : Int) : Prop := sw_E G NH SH (d + 4) mX12_runWord 14 [some (sw_r 224), some (sw_i word), some (sw_i w), some (sw_i i), none] [] h Q
def rpost (h h' : sw_H) (la : Int) : Prop := mK WRl h h' ∧ h' 224 69 = h 224 69 ∧ h' 224 70 = h 224 70 ∧ h' 224 67 = h 224 67 + la ∧ h' 224 68 = h 224 68 ∧ (∀ k : Nat, (k : Int) < h 224 70 → h' 266 k = h 266 k) ∧ (∀ k : Nat, (k : Int) < h 224 69 → h' 264 k = h 264 k ∧ h' 265 k = h 265 k)
def rcond (h : sw_H) (w nd la hi : Int) : Prop := mI h ∧ 0 ≤ w ∧ w < 6 ∧ Wds h w ∧ Wd h w nd la hi ∧ 0 ≤ h 224 69 ∧ h 224 69 + w ≤ 5 ∧ 0 ≤ h 224 70 ∧ h 224 70 + 4 * (w + 1) ≤ 48 ∧ nd ≤ h 224 67 ∧ h 224 67 + hi ≤ 90 ∧ 0 ≤ h 224 68 ∧ h 224 68 + 6 * (w + 1) ≤ 90
def rinv (h : sw_H) (s : Nat → Int) (H U : Nat → Int) (h1 : sw_H) (i : Nat) : Prop := mK WRl h h1 ∧ h1 224 69 = h 224 69 ∧ h1 224 70 = h 224 70 + ((lo s i).length : Nat) ∧ h1 224 67 = h 224 67 + H i ∧ h1 224 68 = h 224 68 + U i ∧ (∀ k : Nat, (k : Int) < h 224 70 → h1 266 k = h 266 k) ∧ (∀ k : Nat, (k : Int) < h 224 69 → h1 264 k = h 264 k ∧ h1 265 k = h 265 k) ∧ (∀ k : Nat, h 224 70 ≤ k → (k : Int) < h1 224 70 → 1 ≤ h1 266 k ∧ h1 266 k ≤ 9)
theorem run_all {G : sw_G} (d : Nat) (word : Int) (Q : Option sw_V → sw_H → Prop) : ∀ (m : Nat) (w : Int), w < m → ∀ (h : sw_H) (nd la hi : Int), rcond h w nd la hi → (∀ h', rpost h h' la → runE G d word Q h' w (wn h w)) → runE G d word Q h w 0 := by
  intro m
  induction m with
  | zero => intro w hw h nd la hi hc; exact absurd hc.2.1 (by omega)
  | succ m ihm =>
    intro w hwm h nd la hi hc hcont
    obtain ⟨hJ, hw0, hw6, hWs, hW, hc0, hc5, hl0, hl48, hn67, hh67, hb0, hb90⟩ := hc
    have hW' := hW
    obtain ⟨hf, hit, hE, hnd0, hnd6, hhi0, hhi12, H, U, H0, U0, Hn, Un, hrng, hL⟩ := hW
    have hnr : (0 : Int) ≤ wn h w ∧ wn h w ≤ 20 := hJ 234 _
    have hS : ∀ j, j < (wn h w).toNat → tS (fS h w) j := fun j hj => (hit j hj).2.1
    have hG : ∀ j, j < (wn h w).toNat → tG (fS h w) (fG h w) j := fun j hj => (hit j hj).2.2
    generalize hs : fS h w = s at *
    generalize hv : fV h w = v at *
    generalize hg : fG h w = g at *
    generalize hn : (wn h w).toNat = n at *
    have hn' : wn h w = (n : Int) := by omega
    have claim : ∀ (q : Nat) (h1 : sw_H) (i : Nat), i ≤ n → rinv h s H U h1 i → mea n (h1 266) (h 224 70).toNat (lo s i) i < q → runE G d word Q h1 w i := by
      intro q
      induction q with
      | zero => intro h1 i _ _ hlt; omega
      | succ q ihq =>
        intro h1 i hin hinv hlt
        obtain ⟨K1, i69, i70, i67, i68, iLL, iCC, iLo⟩ := hinv
        have e1 : cdK h h1 := K1.cd rfl rfl
        have hri := hrng i hin
        have hlen := lo_len hS hin
        by_cases hend : i = n
        · subst hend
          have hl : lo s i = [] := by unfold lo; rw [hE]; rfl
          rw [hl] at i70
          have := hcont h1 ⟨K1, i69, by simpa using i70, by omega, by omega, iLL, iCC⟩
          rw [hn'] at this
          exact this
        · have hlt2 : i < n := by omega
          have hLi := hL i hlt2
          have hICi := (hit i hlt2).1
          have hsO : sO h1 w (i : Int) = s i := by rw [sO_cd e1, ← hs]; rfl
          have hwO : wO h1 w (i : Int) = v i := by rw [wO_cd e1, ← hv]; rfl
          have hgO : h1 243 (60 * h1 224 36 + h1 233 (6 * h1 224 36 + w).toNat + (i : Int)).toNat - (60 * h1 224 36 + h1 233 (6 * h1 224 36 + w).toNat) = g i := by
            rw [← hg, ← fG_cd e1]
            rfl
          have hwn1 : wn h1 w = n := by rw [wn_cd e1]; exact hn'
          refine st_runWord d K1.1 word w i Q ⟨hw0, hw6⟩ ⟨by omega, by omega⟩ ?_ (by omega) ?_ (fun hx => absurd hx (by omega)) ?_
          · rw [e1 224 36 rfl, e1 233 _ rfl, hwn1, ← hn']
            exact hf
          · intro _ hne
            rw [hsO] at hne ⊢
            unfold doPre
            rw [hwO]
            refine ⟨fun q0 => ?_, ⟨by omega, by omega, by omega, by omega, fun q3 => ?_⟩, by omega, fun q6 => ?_, fun q7 => ?_⟩
            · have a := hICi.2.2.1 q0
              have b := hLi.1 q0
              exact ⟨a.1, a.2, by omega, fun q8 => by have := b.2.2.2 q8; omega⟩
            · have b := hLi.2.2.2.1 q3
              omega
            · have := (run_times hS hlt2 q6).2
              omega
            · obtain ⟨a, -, -, -, -, -, -, e7, -, -⟩ := run_next hS hG hL hlt2 q7
              have hl7 : 1 ≤ (lo s i).length := by rw [e7]; simp
              have := iLo (h1 224 70 - 1).toNat (by omega) (by omega)
              exact ⟨by omega, by omega, this.1, this.2⟩
          · intro h2 w2 i2 hh _
            obtain ⟨K2, nx⟩ := hh
            have K12 : mK WRl h h2 := K1.tr K2 (fun _ _ q => q)
            have e2 : cdK h h2 := K12.cd rfl rfl
            rcases nx with nx | nx | nx
            · exact absurd nx.1 (by omega)
            · -- a CALL
              obtain ⟨-, hs2, n69, n67, n68, n70, n264, n265, n266, hw2, hi2⟩ := nx
              rw [hsO] at hs2
              rw [hwO] at hw2
              have hv2 := hICi.2.2.2.1 hs2
              have hL2 := hLi.2.2.1 hs2
              subst hw2
              subst hi2
              have hWc := hWs (v i) hv2.1 hv2.2
              refine ihm (v i) (by omega) h2 (cN h (v i)) (cL h (v i)) (cH h (v i)) ⟨K2.1, hv2.1, by omega, ?_, Wd_cd e2 hWc, by omega, by omega, by omega, by omega, by omega, by omega, by omega, by omega⟩ ?_
              · intro c c0 c1
                exact Wds_cd e2 (fun c c0 c1 => hWs c c0 (by omega)) c c0 c1
              · intro h3 hp
                obtain ⟨K3, p69, p70, p67, p68, pLL, pCC⟩ := hp
                have K13 : mK WRl h h3 := K12.tr K3 (fun _ _ q => q)
                have e3 : cdK h h3 := K13.cd rfl rfl
                have hwn3 : wn h3 (v i) = wn h2 (v i) := by rw [wn_cd e3, wn_cd e2]
                have hnr3 : (0 : Int) ≤ wn h3 (v i) ∧ wn h3 (v i) ≤ 20 := K3.1 234 _
                rw [← hwn3]
                refine st_runWord d K3.1 word (v i) (wn h3 (v i)) Q ⟨hv2.1, by omega⟩ ⟨by omega, by omega⟩ (Wd_cd e3 hWc).1 (by omega) (fun q => absurd q (by omega)) (fun hx => absurd hx (by omega)) ?_
                intro h4 w4 i4 hh4 _
                obtain ⟨K4, nx4⟩ := hh4
                rcases nx4 with nx4 | nx4 | nx4
                · obtain ⟨-, r69, r67, r68, r70, r264, r265, r266, ho⟩ := nx4
                  rcases ho with ⟨ho, -, -⟩ | ⟨-, ho1, ho2⟩
                  · exact absurd ho (by omega)
                  · have hidx : (h4 224 69).toNat = (h1 224 69).toNat := by omega
                    have c264 : h4 264 (h1 224 69).toNat = w := by
                      rw [r264, (pCC _ (by omega)).1, n264, if_pos (by omega)]
                    have c265 : h4 265 (h1 224 69).toNat = (i : Int) + 1 := by
                      rw [r265, (pCC _ (by omega)).2, n265, if_pos (by omega)]
                    rw [hidx] at ho1 ho2
                    rw [c264] at ho1
                    rw [c265] at ho2
                    rw [ho1, ho2]
                    have hlo : lo s (i + 1) = lo s i := run_flat (by omega)
                    have hLLk : ∀ k : Nat, (k : Int) < h1 224 70 → h4 266 k = h1 266 k := fun k hk => by rw [r266, pLL k (by omega), n266]
                    have := ihq h4 (i + 1) (by omega) ⟨K13.tr K4 (fun _ _ q => q), by omega, by rw [hlo]; omega, by omega, by omega, fun k hk => by rw [hLLk k (by omega), iLL k hk], fun k hk => ?_, fun k hk1 hk2 => ?_⟩ ?_
                    · exact this
                    · constructor
                      · rw [r264, (pCC k (by omega)).1, n264, if_neg (by omega), (iCC k hk).1]
                      · rw [r265, (pCC k (by omega)).2, n265, if_neg (by omega), (iCC k hk).2]
                    · rw [hLLk k (by omega)]
                      exact iLo k hk1 (by omega)
                    · have hm : mea n (h4 266) (h 224 70).toNat (lo s (i + 1)) ((i + 1 : Nat) : Int) < mea n (h1 266) (h 224 70).toNat (lo s i) i := by
                        rw [hlo]
                        unfold mea
                        rw [digs_congr (lo s i) (fun k hk => hLLk k (by omega))]
                        exact mea_step (by omega)
                      omega
                · exact absurd rfl nx4.1
                · exact absurd rfl nx4.1
            · -- an ITEM
              obtain ⟨-, hs2, n69, n264, n265, hw2, hp, hcc, hll, hnn⟩ := nx
              rw [hsO] at hs2 hp hcc hll hnn
              rw [hwO] at hcc hll
              rw [hgO] at hp hnn
              subst hw2
              have hCk : ∀ k : Nat, (k : Int) < h 224 69 → h2 264 k = h 264 k ∧ h2 265 k = h 265 k := fun k hk => by
                rw [n264, n265]
                exact iCC k hk
              have s07 : 0 ≤ s i ∧ s i ≤ 7 := ⟨hICi.1, hICi.2.1⟩
              -- where no loop is entered or left
              have plain : ∀ j : Nat, s i ≠ 6 → s i ≠ 7 → i < j → j ≤ n → i2 = (j : Int) → lo s j = lo s i → h2 224 67 = h 224 67 + H j → h2 224 68 = h 224 68 + U j → runE G d word Q h2 w2 i2 := by
                intro j h6 h7 hij hjn ej hlo e67 e68
                obtain ⟨l70, l266⟩ := hll.1 h6 h7
                rw [ej]
                refine ihq h2 j hjn ⟨K12, by omega, by rw [hlo]; omega, e67, e68, fun k hk => by rw [l266, iLL k hk], hCk, fun k hk1 hk2 => by rw [l266]; exact iLo k hk1 (by omega)⟩ ?_
                have hm : mea n (h2 266) (h 224 70).toNat (lo s j) j < mea n (h1 266) (h 224 70).toNat (lo s i) i := by
                  rw [hlo]
                  unfold mea
                  rw [digs_congr (lo s i) (fun k hk => l266 k)]
                  exact mea_step (by omega)
                omega
              have hcase : s i = 0 ∨ s i = 1 ∨ s i = 3 ∨ s i = 4 ∨ s i = 5 ∨ s i = 6 ∨ s i = 7 := by omega
              rcases hcase with c | c | c | c | c | c | c
              · have b := hLi.1 c
                rw [if_pos c, if_pos c] at hcc
                exact plain (i + 1) (by omega) (by omega) (by omega) (by omega) (by have := hp.1 (by omega) (by omega) (by omega); omega) (run_flat (by omega)) (by omega) (by omega)
              · have b := hLi.2.1 c
                rw [if_neg (by omega), if_pos c, if_neg (by omega)] at hcc
                exact plain (i + 1) (by omega) (by omega) (by omega) (by omega) (by have := hp.1 (by omega) (by omega) (by omega); omega) (run_flat (by omega)) (by omega) (by omega)
              · have b := hLi.2.2.2.1 c
                rw [if_neg (by omega), if_neg (by omega), if_pos c, if_neg (by omega)] at hcc
                rcases hp.2.1 c with z | z
                · exact plain (i + 1) (by omega) (by omega) (by omega) (by omega) (by omega) (run_open c) (by omega) (by omega)
                · obtain ⟨j, g1, g2, g3, g4, g5, g6⟩ := run_if hS hG hE hL hlt2 c
                  exact plain (j + 1) (by omega) (by omega) (by omega) (by omega) (by omega) g6 (by omega) (by omega)
              · rw [if_neg (by omega), if_neg (by omega), if_neg (by omega), if_neg (by omega)] at hcc
                obtain ⟨j, g1, g2, g3, g4, g5, g6⟩ := run_else hS hG hE hL hlt2 c
                have z := hp.2.2 c
                exact plain (j + 1) (by omega) (by omega) (by omega) (by omega) (by omega) g6 (by omega) (by omega)
              · have b := hLi.2.2.2.2.2.1 c
                rw [if_neg (by omega), if_neg (by omega), if_neg (by omega), if_neg (by omega)] at hcc
                exact plain (i + 1) (by omega) (by omega) (by omega) (by omega) (by have := hp.1 (by omega) (by omega) (by omega); omega) (run_then hS hlt2 c) (by omega) (by omega)
              · have b := hLi.2.2.2.2.2.2.1 c
                have z := hp.1 (by omega) (by omega) (by omega)
                rw [if_neg (by omega), if_neg (by omega), if_neg (by omega), if_neg (by omega)] at hcc
                obtain ⟨l70, l266⟩ := hll.2 c
                obtain ⟨hlo, hlo3⟩ := run_times hS hlt2 c
                have hv6 := hICi.2.2.2.2 c
                have ei : i2 = ((i + 1 : Nat) : Int) := by omega
                rw [ei]
                have hk : ∀ k : Nat, (k : Int) < h1 224 70 → h2 266 k = h1 266 k := fun k hk => by rw [l266, if_neg (by omega)]
                refine ihq h2 (i + 1) (by omega) ⟨K12, by omega, by rw [hlo, List.length_cons]; omega, by omega, by omega, fun k hk1 => by rw [hk k (by omega), iLL k hk1], hCk, fun k hk1 hk2 => ?_⟩ ?_
                · by_cases ek : (k : Int) = h1 224 70
                  · rw [l266, if_pos ek]; exact hv6
                  · rw [hk k (by omega)]; exact iLo k hk1 (by omega)
                · have hm : mea n (h2 266) (h 224 70).toNat (lo s (i + 1)) ((i + 1 : Nat) : Int) < mea n (h1 266) (h 224 70).toNat (lo s i) i := by
                    rw [hlo]
                    unfold mea
                    simp only [digs, List.length_cons]
                    rw [digs_congr (lo s i) (fun k hk2 => hk k (by omega)), l266, if_pos (by omega)]
                    exact mea_times hlo3 (by omega) (by omega) (by omega)
                  omega
              · rw [if_neg (by omega), if_neg (by omega), if_neg (by omega), if_neg (by omega)] at hcc
                obtain ⟨a, g1, g2, g3, g4, g5, g6, g7, g8, g9⟩ := run_next hS hG hL hlt2 c
                have hl7 : (lo s i).length = (lo s (i + 1)).length + 1 := by rw [g7]; simp
                have hidx : (h1 224 70 - 1).toNat = (h 224 70).toNat + (lo s (i + 1)).length := by omega
                have hlv := iLo (h1 224 70 - 1).toNat (by omega) (by omega)
                rcases hnn c with ⟨z1, z2, z3, z4⟩ | ⟨z2, z3, z4⟩
                · have ei : i2 = ((a + 1 : Nat) : Int) := by omega
                  rw [ei]
                  refine ihq h2 (a + 1) (by omega) ⟨K12, by omega, by rw [g6]; omega, by omega, by omega, fun k hk1 => by rw [z4, if_neg (by omega), iLL k hk1], hCk, fun k hk1 hk2 => ?_⟩ ?_
                  · by_cases ek : (k : Int) = h1 224 70 - 1
                    · rw [z4, if_pos ek]; omega
                    · rw [z4, if_neg ek]; exact iLo k hk1 (by omega)
                  · have hm : mea n (h2 266) (h 224 70).toNat (lo s (a + 1)) ((a + 1 : Nat) : Int) < mea n (h1 266) (h 224 70).toNat (lo s i) i := by
                      rw [g6, g7]
                      unfold mea
                      simp only [digs, List.length_cons]
                      rw [digs_congr (lo s (i + 1)) (fun k hk2 => by rw [z4, if_neg (by omega)]), z4, if_pos (by omega), hidx]
                      rw [hidx] at z1
                      exact mea_back (by omega) (by omega)
                    omega
                · have ei : i2 = ((i + 1 : Nat) : Int) := by omega
                  rw [ei]
                  refine ihq h2 (i + 1) (by omega) ⟨K12, by omega, by omega, by omega, by omega, fun k hk1 => by rw [z4 k (by omega), iLL k hk1], hCk, fun k hk1 hk2 => by rw [z4 k (by omega)]; exact iLo k hk1 (by omega)⟩ ?_
                  have hm : mea n (h2 266) (h 224 70).toNat (lo s (i + 1)) ((i + 1 : Nat) : Int) < mea n (h1 266) (h 224 70).toNat (lo s i) i := by
                    rw [g7]
                    unfold mea
                    simp only [digs, List.length_cons]
                    rw [digs_congr (lo s (i + 1)) (fun k hk2 => z4 k (by omega))]
                    exact mea_exit (by omega) (by omega) (by omega)
                  omega
    have hstart := claim (mea n (h 266) (h 224 70).toNat (lo s 0) ((0 : Nat) : Int) + 1) h 0 (by omega) ⟨mK.refl hJ, rfl, by simp [lo, tT], by omega, by omega, fun _ _ => rfl, fun _ _ => ⟨rfl, rfl⟩, fun k h1 h2 => by omega⟩ (by omega)
    exact hstart
/-- from the loop's head with nothing called to the method's end -/
theorem rw_fin {G : sw_G} (d : Nat) {h0 h : sw_H} (word w nd la hi : Int) (K : mK WRl h0 h) (hw : 0 ≤ w ∧ w < 6) (hWs : Wds h0 w) (hW : Wd h0 w nd la hi) (h69 : h 224 69 = 0) (h70 : h 224 70 = 0) (h67 : h 224 67 = h0 224 67) (h68 : h 224 68 = h0 224 68) (hc : nd ≤ h0 224 67 ∧ h0 224 67 + hi ≤ 90 ∧ 0 ≤ h0 224 68 ∧ h0 224 68 ≤ 50) :
    runE G d word (sw_Qv (fun h' => mK WRl h0 h' ∧ (h' 224 67 = h0 224 67 + la ∧ h' 224 68 = h0 224 68))) h w 0 := by
  have e : cdK h0 h := K.cd rfl rfl
  refine run_all d word _ 6 w (by omega) h nd la hi ⟨K.1, hw.1, hw.2, Wds_cd e hWs, Wd_cd e hW, by omega, by omega, by omega, by omega, by omega, by omega, by omega, by omega⟩ ?_
  intro h1 hp
  obtain ⟨K1, p69, p70, p67, p68, -, -⟩ := hp
  have K01 : mK WRl h0 h1 := K.tr K1 (fun _ _ q => q)
  have e1 : cdK h h1 := K1.cd rfl rfl
  have e01 : cdK h0 h1 := K01.cd rfl rfl
  have hnr : (0 : Int) ≤ wn h1 w ∧ wn h1 w ≤ 20 := K1.1 234 _
  rw [show wn h w = wn h1 w by rw [wn_cd e1]]
  refine st_runWord d K1.1 word w _ _ hw ⟨by omega, by omega⟩ (Wd_cd e01 hW).1 (by omega) (fun q => absurd q (by omega)) (fun q => absurd q (by omega)) ?_
  intro h2 w2 i2 hh _
  obtain ⟨K2, nx⟩ := hh
  rcases nx with nx | nx | nx
  · obtain ⟨-, r69, r67, r68, -, -, -, -, ho⟩ := nx
    have K02 : mK WRl h0 h2 := K01.tr K2 (fun _ _ q => q)
    have e02 : cdK h0 h2 := K02.cd rfl rfl
    rcases ho with ⟨ho, rfl, rfl⟩ | ⟨ho, -, -⟩
    · have hwn2 : wn h1 w2 = wn h2 w2 := by rw [wn_cd e01, wn_cd e02]
      refine st_runWord d K2.1 word w2 _ _ hw ⟨by omega, by omega⟩ (Wd_cd e02 hW).1 (by omega) (fun q => absurd q (by omega)) (fun _ => ⟨rfl, K02, by omega, by omega⟩) ?_
      intro h3 w3 i3 hh3 h69p
      exact absurd h69p (by omega)
    · exact absurd ho (by omega)
  · exact absurd rfl nx.1
  · exact absurd rfl nx.1

-- ===== rows of cells as numbers to the base 4 =====
theorem sh_nat {P : Int → Prop} {b : Nat} (key : ∀ n : Nat, n < b → P (n : Int)) (r : Int) (h0 : 0 ≤ r) (h1 : r < b) : P r := by
  obtain ⟨n, rfl⟩ := Int.eq_ofNat_of_zero_le h0
  exact key n (by omega)
abbrev shl (x y : Int) : Int := (Int32.ofInt x <<< (Int32.ofInt y &&& 31)).toInt
abbrev shr (x y : Int) : Int := (Int32.ofInt x >>> (Int32.ofInt y &&& 31)).toInt
abbrev ior (x y : Int) : Int := (Int32.ofInt x ||| Int32.ofInt y).toInt
abbrev iand (x y : Int) : Int := (Int32.ofInt x &&& Int32.ofInt y).toInt
abbrev shIn (z : Int) : Prop := z = -1 ∨ (0 ≤ z ∧ z ≤ 1023)
theorem sh_dup (r : Int) (h0 : 0 ≤ r) (h1 : r < 256) : shIn (ior (shl r 2) (iand r 3)) := sh_nat (P := fun r => shIn (ior (shl r 2) (iand r 3))) (b := 256) (by decide +kernel) r h0 h1
theorem sh_drop (r : Int) (h0 : 0 ≤ r) (h1 : r < 1024) : shIn (shr r 2) := sh_nat (P := fun r => shIn (shr r 2)) (b := 1024) (by decide +kernel) r h0 h1
theorem sh_swap (r : Int) (h0 : 0 ≤ r) (h1 : r < 1024) : shIn (ior (ior (shl (shr r 4) 4) (shl (iand r 3) 2)) (iand (shr r 2) 3)) := sh_nat (P := fun r => shIn (ior (ior (shl (shr r 4) 4) (shl (iand r 3) 2)) (iand (shr r 2) 3))) (b := 1024) (by decide +kernel) r h0 h1
theorem sh_over (r : Int) (h0 : 0 ≤ r) (h1 : r < 256) : shIn (ior (shl r 2) (iand (shr r 2) 3)) := sh_nat (P := fun r => shIn (ior (shl r 2) (iand (shr r 2) 3))) (b := 256) (by decide +kernel) r h0 h1
theorem sh_rot (r : Int) (h0 : 0 ≤ r) (h1 : r < 1024) : shIn (ior (ior (ior (shl (shr r 6) 6) (shl (iand (shr r 2) 3) 4)) (shl (iand r 3) 2)) (iand (shr r 4) 3)) := sh_nat (P := fun r => shIn (ior (ior (ior (shl (shr r 6) 6) (shl (iand (shr r 2) 3) 4)) (shl (iand r 3) 2)) (iand (shr r 4) 3))) (b := 1024) (by decide +kernel) r h0 h1
theorem sh_nip (r : Int) (h0 : 0 ≤ r) (h1 : r < 1024) : shIn (ior (shl (shr r 4) 2) (iand r 3)) := sh_nat (P := fun r => shIn (ior (shl (shr r 4) 2) (iand r 3))) (b := 1024) (by decide +kernel) r h0 h1
theorem sh_tuck (r : Int) (h0 : 0 ≤ r) (h1 : r < 256) : shIn (ior (ior (ior (shl (shr r 4) 6) (shl (iand r 3) 4)) (shl (iand (shr r 2) 3) 2)) (iand r 3)) := sh_nat (P := fun r => shIn (ior (ior (ior (shl (shr r 4) 6) (shl (iand r 3) 4)) (shl (iand (shr r 2) 3) 2)) (iand r 3))) (b := 256) (by decide +kernel) r h0 h1
/-- HEIGHT and NEEDS over a row of SHUFFLES -/
def nd (v : Nat → Int) (i : Nat) : Nat → Int × Int
  | 0 => (0, 0)
  | k + 1 => ((nd v i k).1 + (sw_sd 1 (v (i + k)).toNat - sw_sd 0 (v (i + k)).toNat), if (nd v i k).2 < sw_sd 0 (v (i + k)).toNat - (nd v i k).1 then sw_sd 0 (v (i + k)).toNat - (nd v i k).1 else (nd v i k).2)
theorem nd_step (v : Nat → Int) (f i : Int) (hf : 0 ≤ f) (hi : f ≤ i) : nd v f.toNat ((i + 1) - f).toNat = ((nd v f.toNat (i - f).toNat).1 + (sw_sd 1 (v i.toNat).toNat - sw_sd 0 (v i.toNat).toNat), if (nd v f.toNat (i - f).toNat).2 < sw_sd 0 (v i.toNat).toNat - (nd v f.toNat (i - f).toNat).1 then sw_sd 0 (v i.toNat).toNat - (nd v f.toNat (i - f).toNat).1 else (nd v f.toNat (i - f).toNat).2) := by
  have e1 : ((i + 1) - f).toNat = (i - f).toNat + 1 := by omega
  have e2 : f.toNat + (i - f).toNat = i.toNat := by omega
  rw [e1]
  show ((nd v f.toNat (i - f).toNat).1 + _, _) = _
  rw [e2]
theorem nd_one (v : Nat → Int) (i : Nat) : (nd v i 1).2 ≤ 3 := by
  have h := sd_rng 0 (v (i + 0)).toNat
  show (if (0 : Int) < sw_sd 0 (v (i + 0)).toNat - 0 then sw_sd 0 (v (i + 0)).toNat - 0 else 0) ≤ 3
  split <;> omega

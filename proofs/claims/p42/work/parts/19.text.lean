-- ===== the two texts of the class (owed: sorry stands here) =====
section RULES
variable {G : sw_G} {N : Nat} {S : sw_S} {d : Nat} {M : sw_M} {pc : Nat} {f : sw_L} {st : List sw_V} {h : sw_H} {Q : Option sw_V → sw_H → Prop}
theorem sw_c16_of (x : Int) : ((Int32.ofInt x).toUInt32 % 65536).toInt32 = Int32.ofInt (sw_c16 x) := by
  unfold sw_c16
  apply Int32.toBitVec_inj.mp
  apply BitVec.eq_of_toNat_eq
  show (BitVec.ofInt 32 x % 65536#32).toNat = (BitVec.ofInt 32 (x % 65536)).toNat
  rw [BitVec.toNat_umod, BitVec.toNat_ofInt, BitVec.toNat_ofInt]
  simp only [show (65536#32).toNat = 65536 from rfl, show ((2 ^ 32 : Nat) : Int) = 4294967296 from rfl]
  omega
theorem sx_i2c {x : Int} (hd : decode M.2.1 pc = .ok (.i2c, 1)) (k : sw_E G N S d M (pc + 1) f (sw_i (sw_c16 x) :: st) h Q) : sw_E G N S d M pc f (sw_i x :: st) h Q :=
  sx_go (fun hs _ => sw_okc (by show sw_ok32 _; unfold sw_ok32 sw_c16; omega) (sw_okt hs)) (fun hx hb _ _ k => lv_i2c hx hb hd (sw_c16_of x) k) k
theorem sx_ldcs {t idx : Nat} (hd : decode M.2.1 pc = .ok (.ldc idx, 2)) (k : sw_E G N S d M (pc + 2) f (sw_r t :: st) h Q) : sw_E G N S d M pc f st h Q := by sorry
theorem sx_slen {idx : Nat} (hd : decode M.2.1 pc = .ok (.invokevirtual idx, 3)) (k : sw_E G N S d M (pc + 3) f (sw_i 145 :: st) h Q) : sw_E G N S d M pc f (sw_r 100003 :: st) h Q := by sorry
theorem sx_charAt {idx : Nat} {i : Int} (hd : decode M.2.1 pc = .ok (.invokevirtual idx, 3)) (hi : 0 ≤ i ∧ i < 145) (k : ∀ z : Int, 0 ≤ z ∧ z ≤ 65535 → sw_E G N S d M (pc + 3) f (sw_i z :: st) h Q) : sw_E G N S d M pc f (sw_i i :: sw_r 100003 :: st) h Q := by sorry
theorem sx_indexOf {idx : Nat} {i : Int} (hd : decode M.2.1 pc = .ok (.invokevirtual idx, 3)) (k : ∀ z : Int, -1 ≤ z ∧ z ≤ 10 → sw_E G N S d M (pc + 3) f (sw_i z :: st) h Q) : sw_E G N S d M pc f (sw_i i :: sw_r 100004 :: st) h Q := by sorry
end RULES

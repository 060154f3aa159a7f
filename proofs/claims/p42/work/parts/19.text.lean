-- ===== the two texts of the class (owed: sorry stands here) =====
section RULES
variable {G : sw_G} {N : Nat} {S : sw_S} {d : Nat} {M : sw_M} {pc : Nat} {f : sw_L} {st : List sw_V} {h : sw_H} {Q : Option sw_V → sw_H → Prop}
theorem sx_i2c {x : Int} (hd : decode M.2.1 pc = .ok (.i2c, 1)) (k : sw_E G N S d M (pc + 1) f (sw_i (sw_c16 x) :: st) h Q) : sw_E G N S d M pc f (sw_i x :: st) h Q := by sorry
theorem sx_ldcs {t idx : Nat} (hd : decode M.2.1 pc = .ok (.ldc idx, 2)) (k : sw_E G N S d M (pc + 2) f (sw_r t :: st) h Q) : sw_E G N S d M pc f st h Q := by sorry
theorem sx_slen {idx : Nat} (hd : decode M.2.1 pc = .ok (.invokevirtual idx, 3)) (k : sw_E G N S d M (pc + 3) f (sw_i 145 :: st) h Q) : sw_E G N S d M pc f (sw_r 100003 :: st) h Q := by sorry
theorem sx_charAt {idx : Nat} {i : Int} (hd : decode M.2.1 pc = .ok (.invokevirtual idx, 3)) (hi : 0 ≤ i ∧ i < 145) (k : ∀ z : Int, 0 ≤ z ∧ z ≤ 65535 → sw_E G N S d M (pc + 3) f (sw_i z :: st) h Q) : sw_E G N S d M pc f (sw_i i :: sw_r 100003 :: st) h Q := by sorry
theorem sx_indexOf {idx : Nat} {i : Int} (hd : decode M.2.1 pc = .ok (.invokevirtual idx, 3)) (k : ∀ z : Int, -1 ≤ z ∧ z ≤ 10 → sw_E G N S d M (pc + 3) f (sw_i z :: st) h Q) : sw_E G N S d M pc f (sw_i i :: sw_r 100004 :: st) h Q := by sorry
end RULES

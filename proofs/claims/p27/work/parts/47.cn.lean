/-! a sum goes on -/
theorem cn_yes {P : Int → Bool} {o i : Int} (h : o = cnt P i.toNat) (h0 : 0 ≤ i) (hp : P i = true) : o + 1 = cnt P (i + 1).toNat := by
  rw [show (i + 1).toNat = i.toNat + 1 by omega, cnt_yes (by rw [Int.toNat_of_nonneg h0]; exact hp), h]
theorem cn_no {P : Int → Bool} {o i : Int} (h : o = cnt P i.toNat) (h0 : 0 ≤ i) (hp : ¬ P i = true) : o + 0 = cnt P (i + 1).toNat := by
  rw [show (i + 1).toNat = i.toNat + 1 by omega, cnt_no (by rw [Int.toNat_of_nonneg h0]; exact hp), h]; omega

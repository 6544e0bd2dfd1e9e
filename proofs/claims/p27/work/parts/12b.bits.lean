/-! how many bits a set has -/
section
variable {K : zC} {n k : Nat} {H : Heap} {pc : Nat} {lv : List (Nat × Value)} {st : List Value} {cc : ByteArray} {own : String} {Ts : List Cond} {D : zD} {base : Nat} {rm : Room} {nL : Nat}
theorem g_iushr (X : GX K cc own Ts D base rm nL) {x y z : Int32} (hd : decode cc pc = .ok (.iushr, 1)) (hz : (x.toUInt32 >>> (y.toUInt32 &&& Int32.toUInt32 31)).toInt32 = z) (kk : G K n k H (pc + 1) lv (.int z :: st)) : G K n k H pc lv (.int y :: .int x :: st) := fun locs ls hS h => lv_iushr X.1 X.2.1 hd hz (kk locs ls hS h)
theorem g_ldcw (X : GX K cc own Ts D base rm nL) {v : Int32} {index : Nat} (hc : Cond.constant own index v ∈ Ts) (hd : decode cc pc = .ok (.ldc_w index, 3)) (kk : G K n k H (pc + 3) lv (.int v :: st)) : G K n k H pc lv st := fun locs ls hS h => lv_ldcw X.1 X.2.1 X.2.2.2.1 (X.2.2.2.2.1 _ hc) hd (kk locs ls hS h)
end
def bn1 (m : Nat) : Nat := m - (m / 2 &&& 1431655765)
def bn2 (m : Nat) : Nat := (m &&& 858993459) + (m / 4 &&& 858993459)
def bn3 (m : Nat) : Nat := (m + m / 16) &&& 252645135
def bn4 (m : Nat) : Nat := m + m / 256
def bn5 (m : Nat) : Nat := m + m / 65536
def bn6 (m : Nat) : Nat := m &&& 63
def bnR (m : Nat) : Nat → Nat
  | 0 => 0
  | k + 1 => bnR m k + m / 2 ^ k % 2
def bnC (m : Nat) : Nat := 0 + m / 1 % 2 + m / 2 % 2 + m / 4 % 2 + m / 8 % 2 + m / 16 % 2 + m / 32 % 2 + m / 64 % 2 + m / 128 % 2 + m / 256 % 2 + m / 512 % 2 + m / 1024 % 2 + m / 2048 % 2 + m / 4096 % 2 + m / 8192 % 2 + m / 16384 % 2 + m / 32768 % 2
theorem bnC_R (m : Nat) : bnC m = bnR m 16 := rfl
def bnOk (m : Nat) : Bool := Nat.beq (bn6 (bn5 (bn4 (bn3 (bn2 (bn1 m)))))) (bnC m)
def bnAll (h : Nat) : Nat → Bool
  | 0 => true
  | k + 1 => bnOk (256 * h + k) && bnAll h k
def bnAl2 (o : Nat) : Nat → Bool
  | 0 => true
  | h + 1 => bnAll (o + h) 256 && bnAl2 o h
theorem bnAll_of {h : Nat} : ∀ {k : Nat}, bnAll h k = true → ∀ i, i < k → bnOk (256 * h + i) = true
  | 0, _, i, hi => absurd hi (Nat.not_lt_zero i)
  | k + 1, q, i, hi => by
    simp only [bnAll, Bool.and_eq_true] at q
    by_cases c : i = k
    · rw [c]; exact q.1
    · exact bnAll_of q.2 i (by omega)
theorem bnAl2_of {o : Nat} : ∀ {h : Nat}, bnAl2 o h = true → ∀ i, i < h → bnAll (o + i) 256 = true
  | 0, _, i, hi => absurd hi (Nat.not_lt_zero i)
  | h + 1, q, i, hi => by
    simp only [bnAl2, Bool.and_eq_true] at q
    by_cases c : i = h
    · rw [c]; exact q.1
    · exact bnAl2_of q.2 i (by omega)
set_option maxRecDepth 100000 in
theorem bnX_0 : bnAl2 0 16 = true := by decide +kernel
set_option maxRecDepth 100000 in
theorem bnX_1 : bnAl2 16 16 = true := by decide +kernel
set_option maxRecDepth 100000 in
theorem bnX_2 : bnAl2 32 16 = true := by decide +kernel
set_option maxRecDepth 100000 in
theorem bnX_3 : bnAl2 48 16 = true := by decide +kernel
set_option maxRecDepth 100000 in
theorem bnX_4 : bnAl2 64 16 = true := by decide +kernel
set_option maxRecDepth 100000 in
theorem bnX_5 : bnAl2 80 16 = true := by decide +kernel
set_option maxRecDepth 100000 in
theorem bnX_6 : bnAl2 96 16 = true := by decide +kernel
set_option maxRecDepth 100000 in
theorem bnX_7 : bnAl2 112 16 = true := by decide +kernel
set_option maxRecDepth 100000 in
theorem bnX_8 : bnAl2 128 16 = true := by decide +kernel
set_option maxRecDepth 100000 in
theorem bnX_9 : bnAl2 144 16 = true := by decide +kernel
set_option maxRecDepth 100000 in
theorem bnX_10 : bnAl2 160 16 = true := by decide +kernel
set_option maxRecDepth 100000 in
theorem bnX_11 : bnAl2 176 16 = true := by decide +kernel
set_option maxRecDepth 100000 in
theorem bnX_12 : bnAl2 192 16 = true := by decide +kernel
set_option maxRecDepth 100000 in
theorem bnX_13 : bnAl2 208 16 = true := by decide +kernel
set_option maxRecDepth 100000 in
theorem bnX_14 : bnAl2 224 16 = true := by decide +kernel
set_option maxRecDepth 100000 in
theorem bnX_15 : bnAl2 240 16 = true := by decide +kernel
theorem bn_row {h : Nat} (hh : h < 256) : bnAll h 256 = true := by
  have e : h = 16 * (h / 16) + h % 16 := by omega
  have h2 : h % 16 < 16 := by omega
  obtain ⟨j, hj, ej⟩ : ∃ j, j < 16 ∧ j = h / 16 := ⟨_, by omega, rfl⟩
  rw [← ej] at e
  rw [e]
  rcases (show j = 0 ∨ j = 1 ∨ j = 2 ∨ j = 3 ∨ j = 4 ∨ j = 5 ∨ j = 6 ∨ j = 7 ∨ j = 8 ∨ j = 9 ∨ j = 10 ∨ j = 11 ∨ j = 12 ∨ j = 13 ∨ j = 14 ∨ j = 15 by omega) with rfl | rfl | rfl | rfl | rfl | rfl | rfl | rfl | rfl | rfl | rfl | rfl | rfl | rfl | rfl | rfl
  · exact bnAl2_of bnX_0 _ h2
  · exact bnAl2_of bnX_1 _ h2
  · exact bnAl2_of bnX_2 _ h2
  · exact bnAl2_of bnX_3 _ h2
  · exact bnAl2_of bnX_4 _ h2
  · exact bnAl2_of bnX_5 _ h2
  · exact bnAl2_of bnX_6 _ h2
  · exact bnAl2_of bnX_7 _ h2
  · exact bnAl2_of bnX_8 _ h2
  · exact bnAl2_of bnX_9 _ h2
  · exact bnAl2_of bnX_10 _ h2
  · exact bnAl2_of bnX_11 _ h2
  · exact bnAl2_of bnX_12 _ h2
  · exact bnAl2_of bnX_13 _ h2
  · exact bnAl2_of bnX_14 _ h2
  · exact bnAl2_of bnX_15 _ h2
theorem bn_all {m : Nat} (h : m < 65536) : bn6 (bn5 (bn4 (bn3 (bn2 (bn1 m))))) = bnC m := by
  have h1 := bnAll_of (bn_row (h := m / 256) (by omega)) (m % 256) (by omega)
  rw [show 256 * (m / 256) + m % 256 = m by omega] at h1
  exact Nat.eq_of_beq_eq_true h1
theorem btt_nat (m : Int) (k : Nat) : (if btt m (k : Int) = true then (1 : Int) else 0) = ((m.toNat / 2 ^ k % 2 : Nat) : Int) := by
  have h : btt m (k : Int) = decide (m.toNat / 2 ^ k % 2 = 1) := by
    unfold btt
    rw [Int.toNat_natCast, Nat.testBit_eq_decide_div_mod_eq]
  by_cases c : m.toNat / 2 ^ k % 2 = 1
  · rw [if_pos (by rw [h]; exact decide_eq_true c), c]; rfl
  · rw [if_neg (by rw [h]; simpa using c), show m.toNat / 2 ^ k % 2 = 0 by omega]; rfl
theorem cnt_btt (m : Int) : ∀ k : Nat, cnt (fun n => btt m n) k = (bnR m.toNat k : Int)
  | 0 => rfl
  | k + 1 => by
    have e := btt_nat m k
    simp only [cnt, bnR]
    rw [cnt_btt m k, e]
    rfl
theorem popc_nat {m : Int} : popc m = (bnC m.toNat : Int) := by rw [bnC_R]; exact cnt_btt m 16


/-! longs: eight characters -/
def lg (u : Nat) : Int64 := (UInt64.ofNat u).toInt64
theorem lg_self (c : Int64) : lg c.toUInt64.toNat = c := by
  unfold lg
  rw [UInt64.ofNat_toNat]
  rfl
theorem lg_sh8 {u b : Nat} (hu : u < 18446744073709551616) (hb : b < 8) : ((lg u).toUInt64 >>> ((J ((8 : Int) * (b : Int))).toInt64.toUInt64 &&& Int64.toUInt64 63)).toInt64 = lg (u / 256 ^ b) := by
  have e : (J ((8 : Int) * (b : Int))).toInt64.toUInt64 &&& Int64.toUInt64 63 = UInt64.ofNat (8 * b) := by
    rcases (show b = 0 ∨ b = 1 ∨ b = 2 ∨ b = 3 ∨ b = 4 ∨ b = 5 ∨ b = 6 ∨ b = 7 by omega) with h | h | h | h | h | h | h | h <;> rw [h] <;> decide +kernel
  rw [e]
  unfold lg
  congr 1
  apply UInt64.toNat_inj.1
  have h1 : ((UInt64.ofNat u).toInt64).toUInt64 = UInt64.ofNat u := rfl
  have h2 : u / 256 ^ b < 18446744073709551616 := Nat.lt_of_le_of_lt (Nat.div_le_self _ _) hu
  rw [h1, UInt64.toNat_shiftRight, UInt64.toNat_ofNat', UInt64.toNat_ofNat', UInt64.toNat_ofNat', Nat.mod_eq_of_lt (show u < 2 ^ 64 from hu), Nat.mod_eq_of_lt (show u / 256 ^ b < 2 ^ 64 from h2), Nat.mod_eq_of_lt (show 8 * b < 2 ^ 64 by omega), Nat.mod_eq_of_lt (show 8 * b < 64 by omega), Nat.shiftRight_eq_div_pow, show 2 ^ (8 * b) = 256 ^ b by rw [Nat.pow_mul]]
theorem lg_byte {u : Nat} (hu : u < 18446744073709551616) : (lg u &&& 255).toInt32 = J ((u % 256 : Nat) : Int) := by
  rw [← J_nI]
  apply Int32.toBitVec_inj.1
  rw [Int64.toBitVec_toInt32, Int64.toBitVec_and]
  show BitVec.signExtend 32 (BitVec.ofNat 64 u &&& BitVec.ofNat 64 255) = BitVec.ofNat 32 (u % 256)
  apply BitVec.eq_of_getLsbD_eq
  intro i hi
  rw [BitVec.getLsbD_signExtend]
  simp only [BitVec.getLsbD_and, BitVec.getLsbD_ofNat, show (255 : Nat) = 2 ^ 8 - 1 from rfl, Nat.testBit_two_pow_sub_one, show (256 : Nat) = 2 ^ 8 from rfl, Nat.testBit_mod_two_pow]
  have h1 : i < 64 := by omega
  simp [hi, h1, Bool.and_comm]
theorem g_lcmp {K : zC} {n k : Nat} {H : Heap} {pc : Nat} {lv : List (Nat × Value)} {st : List Value} {cc : ByteArray} {own : String} {Ts : List Cond} {D : zD} {base : Nat} {rm : Room} {nL : Nat} (X : GX K cc own Ts D base rm nL) {x y : Int64} {v : Int32} (hd : decode cc pc = .ok (.lcmp, 1)) (hv : lg_cmp x y = v) (kk : G K n k H (pc + 1) lv (.int v :: st)) : G K n k H pc lv (.long y :: .long x :: st) := fun locs ls hS h => W.lcmp X.1 X.2.1 hd (by rw [hv]; exact kk locs ls hS h)
theorem lg_zero {u : Nat} (hu : u < 18446744073709551616) : lg_cmp (lg u) (Int64.ofNat ((0 : Fin 2) : Nat)) = J (if u = 0 then 0 else if lg u > 0 then 1 else -1) := by
  have hz : lg u = 0 ↔ u = 0 := by
    constructor
    · intro h
      have h2 := congrArg (fun z : Int64 => z.toUInt64.toNat) h
      have h3 : (UInt64.ofNat u).toNat = 0 := h2
      rw [UInt64.toNat_ofNat', Nat.mod_eq_of_lt (show u < 2 ^ 64 from hu)] at h3
      exact h3
    · intro h
      rw [h]
      decide +kernel
  unfold lg_cmp
  have e0 : Int64.ofNat ((0 : Fin 2) : Nat) = 0 := rfl
  rw [e0]
  by_cases h : u = 0
  · rw [h]; decide +kernel
  · have h2 : ¬ lg u = 0 := fun z => h (hz.mp z)
    rw [if_neg h]
    by_cases q : lg u > 0
    · rw [if_pos q, if_pos q]; rfl
    · rw [if_neg q, if_neg q, if_neg h2]; rfl
/-- how many characters a number holds, 0 if it is not a row of them -/
def ccS (u : Nat) : Nat → Nat → Int
  | 0, s => s
  | k + 1, s => if u / 256 ^ s = 0 then s else if ¬ (33 ≤ u / 256 ^ s % 256 ∧ u / 256 ^ s % 256 ≤ 126) then 0 else ccS u k (s + 1)
theorem ccS_bd (u : Nat) : ∀ (k s : Nat), 0 ≤ ccS u k s ∧ ccS u k s ≤ s + k
  | 0, s => ⟨by simp only [ccS]; omega, by simp only [ccS]; omega⟩
  | k + 1, s => by
    have ih := ccS_bd u k (s + 1)
    simp only [ccS]
    split
    · omega
    · split <;> omega
/-- the pad with the characters behind it -/
def ptF (u : Nat) (c n : Int) (f : Int → Int) : Int → Int := fun j => if j < n then f j else ((u / 256 ^ (c - 1 - (j - n)).toNat % 256 : Nat) : Int)
def ptR (u : Nat) (n : Int) : Int := if ccS u 8 0 = 0 then -2 else if 80 < n + ccS u 8 0 then -4 else n + ccS u 8 0
def ptN (u : Nat) (n : Int) : Int := if ccS u 8 0 = 0 then n else if 80 < n + ccS u 8 0 then n else n + ccS u 8 0
theorem ptF_lo {u : Nat} {c n : Int} {f : Int → Int} : ∀ i : Int, 0 ≤ i → i < n → f i = ptF u c n f i := fun i _ h => (if_pos h).symm

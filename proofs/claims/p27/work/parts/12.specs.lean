/-! what the calls do, said of the flat state -/
/-- the error of a passage, or 0 -/
def perr (g : Int → Int) (a b : Int) : Int := if ¬ (0 ≤ a ∧ a < g 0) ∨ ¬ (0 ≤ b ∧ b < g 0) then -1 else if b < a then -2 else 0
theorem perr_bd (g : Int → Int) (a b : Int) : -2 ≤ perr g a b ∧ perr g a b ≤ 0 := by unfold perr; (repeat' split) <;> omega
theorem perr_ok {g : Int → Int} {a b : Int} (h : ¬ perr g a b < 0) : 0 ≤ a ∧ a ≤ b ∧ b < g 0 := by
  unfold perr at h
  split at h
  · omega
  · split at h <;> omega
def loS (s : Int) : Int := if s = 0 then 0 else 1
def hiS (s : Int) : Int := if s = 0 then 8 else if s = 1 then 60 else 9
def setOk (s v : Int) : Prop := 0 ≤ s ∧ s < 3 ∧ loS s ≤ v ∧ v ≤ hiS s
def setR (g : Int → Int) (s v : Int) : Int := if 0 ≤ s ∧ s < 3 ∧ loS s ≤ v ∧ v ≤ hiS s then g (2 + s) else -2
def setG (g : Int → Int) (s v : Int) : Int → Int := if 0 ≤ s ∧ s < 3 ∧ loS s ≤ v ∧ v ≤ hiS s then up g (2 + s) v else g
/-- a letter comes to a place -/
def cmG (g : Int → Int) (p c o : Int) : Int → Int := fun j => if j = 0 then g 0 + 1 else if 5 ≤ j ∧ j < 65 then ins (LT g) p c (j - 5) else if 65 ≤ j ∧ j < 125 then ins (OW g) p o (j - 65) else g j
def wrR (g : Int → Int) (p c : Int) : Int := if ¬ (0 ≤ p ∧ p ≤ g 0) then -1 else if ¬ (0 ≤ c ∧ c < 26) then -2 else if 60 ≤ g 0 then -4 else g 0 + 1
def wrG (g : Int → Int) (p c : Int) : Int → Int := if wrR g p c < 0 then g else cmG g p c 0
/-- letters go -/
def dlG (g : Int → Int) (a b : Int) : Int → Int := fun j => if j = 0 then g 0 - (b - a + 1) else if 5 ≤ j ∧ j < 65 then del (LT g) a b (j - 5) else if 65 ≤ j ∧ j < 125 then del (OW g) a b (j - 65) else g j
/-- the owners within a passage, and those beyond -/
def orI (g : Int → Int) (a b : Int) : Nat → Nat × Nat
  | 0 => (0, 0)
  | k + 1 => match orI g a b k with
    | (x, y) => if a ≤ (k : Int) ∧ (k : Int) ≤ b then (x ||| (OW g k).toNat, y) else (x, y ||| (OW g k).toNat)
def ors (g : Int → Int) (a b : Int) : Int := (((orI g a b (g 0).toNat).1 &&& (65535 ^^^ (orI g a b (g 0).toNat).2) : Nat) : Int)
def orR (g : Int → Int) (a b : Int) : Int := if perr g a b < 0 then perr g a b else ors g a b
def popc (m : Int) : Int := cnt (fun n => btt m n) 16
def erR (g : Int → Int) (a b : Int) : Int := if perr g a b < 0 then perr g a b else popc (ors g a b)
def erG (g : Int → Int) (a b : Int) : Int → Int := if perr g a b < 0 then g else dlG g a b
/-- letters are moved -/
def mvG (g : Int → Int) (a b p : Int) : Int → Int := fun j => if 5 ≤ j ∧ j < 65 then mvf (LT g) a b p (j - 5) else if 65 ≤ j ∧ j < 125 then mvf (OW g) a b p (j - 65) else g j
/-- a note's pieces, the letters of it that there are, where it stands -/
abbrev ntP (g : Int → Int) (n : Int) : Int := scP (ownb (OW g) n) (g 0).toNat
abbrev ntL (g : Int → Int) (n : Int) : Int := scL (ownb (OW g) n) (g 0).toNat
abbrev ntF (g : Int → Int) (n : Int) : Int := scF (ownb (OW g) n) (g 0).toNat
abbrev ntE (g : Int → Int) (n : Int) : Int := scE (ownb (OW g) n) (g 0).toNat
def ptd (g : Int → Int) : Int := cnt (fun n => decide (1 < ntP g n)) (g 1).toNat
def mverr (g : Int → Int) (a b p : Int) : Int := if perr g a b < 0 then perr g a b else if ¬ (0 ≤ p ∧ p ≤ g 0 - (b - a + 1)) then -2 else 0
def mvR (g : Int → Int) (a b p : Int) : Int := if mverr g a b p < 0 then mverr g a b p else ptd (mvG g a b p)
def mvS (g : Int → Int) (a b p : Int) : Int → Int := if mverr g a b p < 0 then g else mvG g a b p
abbrev tgt (g : Int → Int) (n : Int) : Int := g (125 + 80 * n)
def stt (g : Int → Int) (n : Int) : Int := if ¬ tgt g n = -6 then 2 else if 0 < ntL g n then 0 else 1
def cst (g : Int → Int) (s : Int) : Int := cnt (fun n => decide (stt g n = s)) (g 1).toNat
def lns (g : Int → Int) : Int := if g 0 = 0 then 0 else (g 0 - 1) / g 3 + 1
/-- note i is anchored to letters -/
def aheadN (g : Int → Int) (a : Int) : Int := if g 2 ≤ a then g 2 else a
def behindN (g : Int → Int) (b : Int) : Int := if g 2 ≤ g 0 - 1 - b then g 2 else g 0 - 1 - b
def addB (m i : Int) : Int := ((m.toNat ||| 2 ^ i.toNat : Nat) : Int)
def anG (g : Int → Int) (i a b : Int) : Int → Int := fun j =>
  if 65 ≤ j ∧ j < 125 then (if a ≤ j - 65 ∧ j - 65 ≤ b then addB (g j) i else g j)
  else if j = 125 + 80 * i then -6 else if j = 126 + 80 * i then b - a + 1 else if 127 + 80 * i ≤ j ∧ j < 187 + 80 * i then LT g (a + (j - (127 + 80 * i)))
  else if j = 187 + 80 * i then aheadN g a else if 188 + 80 * i ≤ j ∧ j < 196 + 80 * i then LT g (a - 1 - (j - (188 + 80 * i)))
  else if j = 196 + 80 * i then behindN g b else if 197 + 80 * i ≤ j ∧ j < 205 + 80 * i then LT g (b + 1 + (j - (197 + 80 * i))) else g j
def ntR (g : Int → Int) (a b : Int) : Int := if perr g a b < 0 then perr g a b else if 16 ≤ g 1 then -4 else g 1
def ntG (g : Int → Int) (a b : Int) : Int → Int := if ntR g a b < 0 then g else anG (up g 1 (g 1 + 1)) (g 1) a b
abbrev isN (g : Int → Int) (n : Int) : Prop := 0 ≤ n ∧ n < g 1
def rpR (g : Int → Int) (n : Int) : Int := if ¬ isN g n then -1 else if 16 ≤ g 1 then -4 else g 1
def rpG (g : Int → Int) (n : Int) : Int → Int := if rpR g n < 0 then g else up (up (up g (126 + 80 * g 1) 0) (125 + 80 * g 1) n) 1 (g 1 + 1)
/-- bit k of a set goes, those above it move down -/
def dropB (m k : Int) : Int := (((m.toNat &&& (2 ^ k.toNat - 1)) ||| ((m.toNat / 2) &&& (65535 ^^^ (2 ^ k.toNat - 1))) : Nat) : Int)
/-- note k goes, those behind it move up -/
def rmG (g : Int → Int) (k : Int) : Int → Int := fun j =>
  if j = 1 then g 1 - 1 else if 65 ≤ j ∧ j < 125 then dropB (g j) k
  else if 125 ≤ j then (if 125 + 80 * k ≤ j then (if (j - 125) % 80 = 0 ∧ k < g (j + 80) then g (j + 80) - 1 else g (j + 80)) else g j) else g j
/-- whether note o leads to note n -/
def chn (g : Int → Int) : Nat → Int → Int
  | 0, o => o
  | k + 1, o => chn g k (tgt g o)
def dep (g : Int → Int) : Nat → Int → Nat
  | 0, _ => 0
  | k + 1, o => if tgt g o = -6 then 0 else dep g k (tgt g o) + 1
/-- the steps from a note to one with a passage, and that one -/
def dpt (g : Int → Int) (n : Int) : Int := (dep g 16 n : Int)
def rot (g : Int → Int) (n : Int) : Int := chn g (dep g 16 n) n
/-- the set of a note and those below it -/
def fam (g : Int → Int) (n : Int) : Nat → Nat
  | 0 => 2 ^ n.toNat
  | k + 1 => if isin (fam g n k : Int) (tgt g (n + 1 + k)) then fam g n k ||| 2 ^ (n + 1 + k).toNat else fam g n k
def famS (g : Int → Int) (n : Int) : Int := (fam g n (g 1 - 1 - n).toNat : Int)
/-- those of a set go, the last one first, down to n -/
def drp (m : Int) : Nat → Int → (Int → Int) → (Int → Int)
  | 0, _, g => g
  | k + 1, n, g => drp m k n (if isin m (n + k) then rmG g (n + k) else g)
def dpR (g : Int → Int) (n : Int) : Int := if ¬ isN g n then -1 else popc (famS g n)
def dpG (g : Int → Int) (n : Int) : Int → Int := if ¬ isN g n then g else drp (famS g n) (g 1 - n).toNat n g
/-- where an orphan could stand -/
def okN (g : Int → Int) (n : Int) : Int → Bool := okS (g 0) (LT g) (g (126 + 80 * n)) (fun j => g (127 + 80 * n + j))
def lkN (g : Int → Int) (n : Int) : Int → Int := lkS (g 0) (LT g) (g (126 + 80 * n)) (g (187 + 80 * n)) (g (196 + 80 * n)) (fun j => g (188 + 80 * n + j)) (fun j => g (197 + 80 * n + j))
def bstN (g : Int → Int) (n : Int) : Int × Int × Int := best (okN g n) (lkN g n) (g 0).toNat
def rcR (g : Int → Int) (n : Int) : Int := if ¬ isN g n then -1 else if ¬ stt g n = 1 then -5 else if (bstN g n).2.2 = 0 then -5 else (bstN g n).1
def rcG (g : Int → Int) (n : Int) : Int → Int := if rcR g n < 0 then g else anG g n (bstN g n).1 ((bstN g n).1 + g (126 + 80 * n) - 1)
def coR (g : Int → Int) (n w : Int) : Int := if ¬ isN g n then -1 else if ¬ (0 ≤ w ∧ w ≤ 2) then -2 else if ¬ stt g n = 1 then -5 else if (bstN g n).2.2 = 0 then -6 else if w = 0 then (bstN g n).1 else if w = 1 then (bstN g n).2.1 else (bstN g n).2.2
theorem J_div {a b : Int} (ha : 0 ≤ a ∧ a < 2147483648) (hb : 0 < b ∧ b < 2147483648) : J a / J b = J (a / b) := by
  rw [J_nI' ha.1, J_nI' (by omega), pk_div (by omega) (by omega) (by omega), J_nI, Int.natCast_ediv, Int.toNat_of_nonneg ha.1, Int.toNat_of_nonneg (by omega)]
theorem z_xor (a b : Nat) : nI a ^^^ nI b = nI (a ^^^ b) := by
  apply Int32.toBitVec_inj.1
  show BitVec.ofNat 32 a ^^^ BitVec.ofNat 32 b = BitVec.ofNat 32 (a ^^^ b)
  apply BitVec.eq_of_getLsbD_eq
  intro i hi
  simp [hi]
theorem J_andn {a b : Int} (ha : 0 ≤ a ∧ a < 65536) (hb : 0 ≤ b ∧ b < 65536) : J a &&& (J b ^^^ J (-1)) = J ((a.toNat &&& (65535 ^^^ b.toNat) : Nat) : Int) := by
  rw [show J (-1) = nI 4294967295 by decide +kernel, J_nI' ha.1, J_nI' hb.1, z_xor, z_and, J_nI]
  congr 2
  apply Nat.eq_of_testBit_eq
  intro i
  rw [Nat.testBit_and, Nat.testBit_and, Nat.testBit_xor, Nat.testBit_xor, show (65535 : Nat) = 2 ^ 16 - 1 from rfl, show (4294967295 : Nat) = 2 ^ 32 - 1 from rfl, Nat.testBit_two_pow_sub_one, Nat.testBit_two_pow_sub_one]
  by_cases c : i < 16
  · rw [decide_eq_true c, decide_eq_true (show i < 32 by omega), Bool.xor_comm]
  · have h1 : a.toNat.testBit i = false := Nat.testBit_lt_two_pow (Nat.lt_of_lt_of_le (show a.toNat < 2 ^ 16 by omega) (Nat.pow_le_pow_right (by decide) (by omega)))
    rw [h1, Bool.false_and, Bool.false_and]
theorem or_lt {a b : Nat} (ha : a < 65536) (hb : b < 65536) : a ||| b < 65536 := Nat.or_lt_two_pow (n := 16) ha hb
theorem and_lt {a b : Nat} (ha : a < 65536) : a &&& b < 65536 := Nat.lt_of_le_of_lt Nat.and_le_left ha
theorem PInv.own {g : Int → Int} (h : PInv g) : ∀ i : Int, 0 ≤ i → i < g 0 → 0 ≤ OW g i ∧ OW g i < 65536 := fun i a b => by
  obtain ⟨h1, h2, h3, h4, h5, h6, h7, h8, h9, h10, h11, h12, h13⟩ := h
  exact ⟨(h12 i a b).1, (h12 i a b).2.1⟩
theorem PInv.let {g : Int → Int} (h : PInv g) : ∀ i : Int, 0 ≤ i → i < g 0 → 0 ≤ LT g i ∧ LT g i ≤ 25 := fun i a b => by
  obtain ⟨h1, h2, h3, h4, h5, h6, h7, h8, h9, h10, h11, h12, h13⟩ := h
  exact h11 i a b
theorem PInv.tg {g : Int → Int} (h : PInv g) {i : Int} (h0 : 0 ≤ i) (hi : i < g 1) : tgt g i = -6 ∨ (0 ≤ tgt g i ∧ tgt g i < i) := by
  obtain ⟨h1, h2, h3, h4, h5, h6, h7, h8, h9, h10, h11, h12, h13⟩ := h
  rcases h13 i h0 hi with q | q
  · exact Or.inl q.1
  · exact Or.inr q
theorem PInv.nums {g : Int → Int} (h : PInv g) : 0 ≤ g 0 ∧ g 0 ≤ 60 ∧ 0 ≤ g 1 ∧ g 1 ≤ 16 ∧ 0 ≤ g 2 ∧ g 2 ≤ 8 ∧ 1 ≤ g 3 ∧ g 3 ≤ 60 ∧ 1 ≤ g 4 ∧ g 4 ≤ 9 := by
  obtain ⟨h1, h2, h3, h4, h5, h6, h7, h8, h9, h10, h11, h12, h13⟩ := h
  exact ⟨h1, h2, h3, h4, h5, h6, h7, h8, h9, h10⟩
theorem PageAt.sc {D : zD} {q : Nat} {g : Int → Int} {H H1 : Heap} (h : PageAt D q g H) (fr : Fr (Iv (q + 8) (q + 9)) 0 H H1) (hp : PgP D q H1) : PageAt D q g H1 := by
  obtain ⟨h1, h2, h3, h4, h5, h6, h7⟩ := h
  exact ⟨h1.fr fr (by omega), h2.fr fr (by omega), h3.fr fr (by omega), h4.fr fr (by omega), h5.fr fr (by omega), hp, h7⟩
/-- what find answers -/
def fnd (q : Nat) (pi : Int → Nat) (k i : Int) : Value := if 0 ≤ i ∧ i < k then .ref (q + 9 + 7 * pi i) else .null
theorem fnd_in {q : Nat} {pi : Int → Nat} {k i : Int} (h : 0 ≤ i ∧ i < k) : fnd q pi k i = .ref (q + 9 + 7 * pi i) := if_pos h
theorem fnd_out {q : Nat} {pi : Int → Nat} {k i : Int} (h : ¬ (0 ≤ i ∧ i < k)) : fnd q pi k i = .null := if_neg h
theorem cnt_no {P : Int → Bool} {n : Nat} (h : ¬ P (n : Int) = true) : cnt P (n + 1) = cnt P n := by simp only [cnt]; rw [if_neg h]; omega
theorem cnt_yes {P : Int → Bool} {n : Nat} (h : P (n : Int) = true) : cnt P (n + 1) = cnt P n + 1 := by simp only [cnt]; rw [if_pos h]
theorem orI_bd {g : Int → Int} (a b : Int) : ∀ {k : Nat}, (∀ i : Int, 0 ≤ i → i < k → 0 ≤ OW g i ∧ OW g i < 65536) → (orI g a b k).1 < 65536 ∧ (orI g a b k).2 < 65536
  | 0, _ => ⟨Nat.zero_lt_succ _, Nat.zero_lt_succ _⟩
  | k + 1, h => by
    have ih := orI_bd (g := g) a b (k := k) (fun i h0 h1 => h i h0 (by omega))
    have hk := h k (by omega) (by omega)
    simp only [orI]
    split
    · exact ⟨or_lt ih.1 (by omega), ih.2⟩
    · exact ⟨ih.1, or_lt ih.2 (by omega)⟩
theorem orI_in {g : Int → Int} {a b : Int} {k : Nat} (h : a ≤ (k : Int) ∧ (k : Int) ≤ b) : orI g a b (k + 1) = ((orI g a b k).1 ||| (OW g k).toNat, (orI g a b k).2) := by simp only [orI]; rw [if_pos h]
theorem orI_out {g : Int → Int} {a b : Int} {k : Nat} (h : ¬ (a ≤ (k : Int) ∧ (k : Int) ≤ b)) : orI g a b (k + 1) = ((orI g a b k).1, (orI g a b k).2 ||| (OW g k).toNat) := by simp only [orI]; rw [if_neg h]
theorem ors_bd {g : Int → Int} (h : PInv g) (a b : Int) : 0 ≤ ors g a b ∧ ors g a b < 65536 := by
  have h1 := orI_bd (g := g) a b (k := (g 0).toNat) (fun i h0 h1 => h.own i h0 (by omega))
  unfold ors
  have h2 := and_lt (b := 65535 ^^^ (orI g a b (g 0).toNat).2) h1.1
  omega
theorem PgS.settings {D : zD} {q : Nat} {g : Int → Int} {H : Heap} (h : RowAt D (q + 1) 3 3 (fun i => g (2 + i)) H) (g' : Int → Int) (e : ∀ i : Int, 0 ≤ i → i < 3 → g (2 + i) = g' (2 + i)) : RowAt D (q + 1) 3 3 (fun i => g' (2 + i)) H := h.congr e
theorem nt_bd (g : Int → Int) (n : Int) : 0 ≤ ntP g n ∧ ntP g n ≤ ntL g n ∧ ntL g n ≤ (g 0).toNat ∧ (ntL g n = 0 → ntF g n = -6 ∧ ntE g n = -6) ∧ (0 < ntL g n → 0 < ntP g n ∧ 0 ≤ ntF g n ∧ ntF g n ≤ ntE g n ∧ ntE g n < (g 0).toNat) := by
  obtain ⟨h1, h2, h3, h4, h5, h6, h7, h8, h9⟩ := sc_bd (ownb (OW g) n) (g 0).toNat
  refine ⟨h1, h2, h3, fun q => ?_, fun q => ?_⟩
  · have e : scM (ownb (OW g) n) (g 0).toNat = 0 := by
      have q' : scL (ownb (OW g) n) (g 0).toNat = 0 := q
      omega
    exact ⟨if_pos e, h7 e⟩
  · have q' : 0 < scL (ownb (OW g) n) (g 0).toNat := q
    have k1 := h9 q'
    have k2 := h8 k1.1
    have e : ntF g n = scE (ownb (OW g) n) (g 0).toNat - scM (ownb (OW g) n) (g 0).toNat + 1 := if_neg (by omega)
    have e2 : ntE g n = scE (ownb (OW g) n) (g 0).toNat := rfl
    have e3 : ntP g n = scP (ownb (OW g) n) (g 0).toNat := rfl
    refine ⟨by omega, by omega, by omega, by omega⟩


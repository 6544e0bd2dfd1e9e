/-! the state's own rules are kept -/
theorem btt_0 (n : Int) : btt 0 n = false := by unfold btt; exact Nat.zero_testBit _
theorem btt_addB {m i n : Int} (hi : 0 ≤ i) (hn : 0 ≤ n) : btt (addB m i) n = (btt m n || decide (i = n)) := by
  unfold btt addB
  rw [Int.toNat_natCast, Nat.testBit_or, Nat.testBit_two_pow]
  congr 1
  rw [decide_eq_decide]
  omega
theorem addB_bd {m i : Int} (hm : 0 ≤ m ∧ m < 65536) (hi : 0 ≤ i ∧ i < 16) : 0 ≤ addB m i ∧ addB m i < 65536 := by
  unfold addB
  have h1 : 2 ^ i.toNat < 2 ^ 16 := Nat.pow_lt_pow_right (by decide) (by omega)
  have h2 : m.toNat ||| 2 ^ i.toNat < 2 ^ 16 := Nat.or_lt_two_pow (by omega) h1
  omega
theorem dropB_bd {m k : Int} (hm : 0 ≤ m ∧ m < 65536) : 0 ≤ dropB m k ∧ dropB m k < 65536 := by
  unfold dropB
  have h2 : (m.toNat &&& (2 ^ k.toNat - 1)) ||| ((m.toNat / 2) &&& (65535 ^^^ (2 ^ k.toNat - 1))) < 2 ^ 16 := Nat.or_lt_two_pow (and_lt (by omega)) (and_lt (by omega))
  omega
theorem btt_dropB {m k n : Int} (hm : 0 ≤ m ∧ m < 65536) (hk : 0 ≤ k) (hn : 0 ≤ n) : btt (dropB m k) n = if n < k then btt m n else btt m (n + 1) := by
  unfold btt dropB
  rw [Int.toNat_natCast, Nat.testBit_or, Nat.testBit_and, Nat.testBit_and, Nat.testBit_xor, Nat.testBit_two_pow_sub_one, show (65535 : Nat) = 2 ^ 16 - 1 from rfl, Nat.testBit_two_pow_sub_one, Nat.testBit_div_two, show (n + 1).toNat = n.toNat + 1 by omega]
  by_cases c : n < k
  · rw [if_pos c, decide_eq_true (show n.toNat < k.toNat by omega)]
    by_cases c2 : n.toNat < 16
    · rw [decide_eq_true c2]; simp
    · have h1 : m.toNat.testBit (n.toNat + 1) = false := Nat.testBit_lt_two_pow (Nat.lt_of_lt_of_le (show m.toNat < 2 ^ 16 by omega) (Nat.pow_le_pow_right (by decide) (by omega)))
      rw [h1]; simp
  · rw [if_neg c, decide_eq_false (show ¬ n.toNat < k.toNat by omega)]
    by_cases c2 : n.toNat < 16
    · rw [decide_eq_true c2]; simp
    · have h1 : m.toNat.testBit (n.toNat + 1) = false := Nat.testBit_lt_two_pow (Nat.lt_of_lt_of_le (show m.toNat < 2 ^ 16 by omega) (Nat.pow_le_pow_right (by decide) (by omega)))
      rw [h1]; simp
theorem btt_lt {m n : Int} (hm : 0 ≤ m ∧ m < 65536) (h : btt m n = true) : n < 16 := by
  rcases Int.lt_or_le n 16 with q | q
  · exact q
  · unfold btt at h
    rw [Nat.testBit_lt_two_pow (Nat.lt_of_lt_of_le (show m.toNat < 2 ^ 16 by omega) (Nat.pow_le_pow_right (by decide) (by omega)))] at h
    cases h
theorem PInv.rows {g g' : Int → Int} (h : PInv g) (h1 : g' 1 = g 1) (hs : g' 2 = g 2 ∧ g' 3 = g 3 ∧ g' 4 = g 4) (h0 : 0 ≤ g' 0 ∧ g' 0 ≤ 60)
    (hl : ∀ i : Int, 0 ≤ i → i < g' 0 → (∃ j : Int, 0 ≤ j ∧ j < g 0 ∧ g' (5 + i) = g (5 + j)) ∨ (0 ≤ g' (5 + i) ∧ g' (5 + i) ≤ 25))
    (ho : ∀ i : Int, 0 ≤ i → i < g' 0 → (∃ j : Int, 0 ≤ j ∧ j < g 0 ∧ g' (65 + i) = g (65 + j)) ∨ g' (65 + i) = 0)
    (hh : ∀ j : Int, 125 ≤ j → g' j = g j) : PInv g' := by
  obtain ⟨a1, a2, a3, a4, a5, a6, a7, a8, a9, a10, a11, a12, a13⟩ := h
  refine ⟨h0.1, h0.2, by omega, by omega, by omega, by omega, by omega, by omega, by omega, by omega, ?_, ?_, ?_⟩
  · intro i b1 b2
    rcases hl i b1 b2 with ⟨j, c1, c2, c3⟩ | q
    · rw [c3]; exact a11 j c1 c2
    · exact q
  · intro i b1 b2
    rcases ho i b1 b2 with ⟨j, c1, c2, c3⟩ | q
    · rw [c3]
      refine ⟨(a12 j c1 c2).1, (a12 j c1 c2).2.1, fun n hn => ?_⟩
      have := (a12 j c1 c2).2.2 n hn
      rw [h1, hh _ (by have := hn.1; omega)]
      exact this
    · rw [q]
      refine ⟨by omega, by omega, fun n hn => ?_⟩
      have := hn.2.2
      rw [btt_0] at this
      cases this
  · intro i b1 b2
    have q := a13 i b1 (by omega)
    rw [hh _ (by omega), hh (126 + 80 * i) (by omega), hh (187 + 80 * i) (by omega), hh (196 + 80 * i) (by omega)]
    rcases q with ⟨c1, c2, c3, c4, c5, c6, c7, c8, c9, c10⟩ | q
    · exact Or.inl ⟨c1, c2, c3, c4, c5, c6, c7, fun j d1 d2 => by rw [hh _ (by omega)]; exact c8 j d1 d2, fun j d1 d2 => by rw [hh _ (by omega)]; exact c9 j d1 d2, fun j d1 d2 => by rw [hh _ (by omega)]; exact c10 j d1 d2⟩
    · exact Or.inr q
theorem cmG_at {g : Int → Int} {p c o : Int} : (cmG g p c o 0 = g 0 + 1) ∧ (∀ j : Int, 0 < j → j < 5 → cmG g p c o j = g j) ∧ (∀ i : Int, 0 ≤ i → i < 60 → cmG g p c o (5 + i) = ins (LT g) p c i) ∧ (∀ i : Int, 0 ≤ i → i < 60 → cmG g p c o (65 + i) = ins (OW g) p o i) ∧ (∀ j : Int, 125 ≤ j → cmG g p c o j = g j) :=
  ⟨rfl, fun j h0 h1 => by unfold cmG; rw [if_neg (by omega), if_neg (by omega), if_neg (by omega)], fun i h0 h1 => by unfold cmG; rw [if_neg (by omega), if_pos (by omega), show 5 + i - 5 = i by omega], fun i h0 h1 => by unfold cmG; rw [if_neg (by omega), if_neg (by omega), if_pos (by omega), show 65 + i - 65 = i by omega], fun j h => by unfold cmG; rw [if_neg (by omega), if_neg (by omega), if_neg (by omega)]⟩
theorem dlG_at {g : Int → Int} {a b : Int} : (dlG g a b 0 = g 0 - (b - a + 1)) ∧ (∀ j : Int, 0 < j → j < 5 → dlG g a b j = g j) ∧ (∀ i : Int, 0 ≤ i → i < 60 → dlG g a b (5 + i) = del (LT g) a b i) ∧ (∀ i : Int, 0 ≤ i → i < 60 → dlG g a b (65 + i) = del (OW g) a b i) ∧ (∀ j : Int, 125 ≤ j → dlG g a b j = g j) :=
  ⟨rfl, fun j h0 h1 => by unfold dlG; rw [if_neg (by omega), if_neg (by omega), if_neg (by omega)], fun i h0 h1 => by unfold dlG; rw [if_neg (by omega), if_pos (by omega), show 5 + i - 5 = i by omega], fun i h0 h1 => by unfold dlG; rw [if_neg (by omega), if_neg (by omega), if_pos (by omega), show 65 + i - 65 = i by omega], fun j h => by unfold dlG; rw [if_neg (by omega), if_neg (by omega), if_neg (by omega)]⟩
theorem mvG_at {g : Int → Int} {a b p : Int} : (∀ j : Int, 0 ≤ j → j < 5 → mvG g a b p j = g j) ∧ (∀ i : Int, 0 ≤ i → i < 60 → mvG g a b p (5 + i) = mvf (LT g) a b p i) ∧ (∀ i : Int, 0 ≤ i → i < 60 → mvG g a b p (65 + i) = mvf (OW g) a b p i) ∧ (∀ j : Int, 125 ≤ j → mvG g a b p j = g j) :=
  ⟨fun j h0 h1 => by unfold mvG; rw [if_neg (by omega), if_neg (by omega)], fun i h0 h1 => by unfold mvG; rw [if_pos (by omega), show 5 + i - 5 = i by omega], fun i h0 h1 => by unfold mvG; rw [if_neg (by omega), if_pos (by omega), show 65 + i - 65 = i by omega], fun j h => by unfold mvG; rw [if_neg (by omega), if_neg (by omega)]⟩
theorem mvf_in (f : Int → Int) {a b p n i : Int} (h : 0 ≤ a ∧ a ≤ b ∧ b < n) (hp : 0 ≤ p ∧ p ≤ n - (b - a + 1)) (h0 : 0 ≤ i) (h1 : i < n) : ∃ j : Int, 0 ≤ j ∧ j < n ∧ mvf f a b p i = f j := by
  unfold mvf
  (repeat' split) <;> exact ⟨_, by omega, by omega, rfl⟩
theorem PInv.set {g : Int → Int} (h : PInv g) {s v : Int} (hok : 0 ≤ s ∧ s < 3 ∧ loS s ≤ v ∧ v ≤ hiS s) : PInv (up g (2 + s) v) := by
  obtain ⟨a1, a2, a3, a4, a5, a6, a7, a8, a9, a10, a11, a12, a13⟩ := h
  have e : ∀ j : Int, ¬ j = 2 + s → up g (2 + s) v j = g j := fun j q => if_neg q
  have e2 : up g (2 + s) v (2 + s) = v := if_pos rfl
  have hset : (0 ≤ up g (2 + s) v 2 ∧ up g (2 + s) v 2 ≤ 8) ∧ (1 ≤ up g (2 + s) v 3 ∧ up g (2 + s) v 3 ≤ 60) ∧ (1 ≤ up g (2 + s) v 4 ∧ up g (2 + s) v 4 ≤ 9) := by
    obtain ⟨b1, b2, b3, b4⟩ := hok
    unfold loS hiS at *
    rcases (show s = 0 ∨ s = 1 ∨ s = 2 by omega) with rfl | rfl | rfl
    · exact ⟨by have e3 : up g (2 + 0) v 2 = v := e2; rw [e3]; simp at b3 b4; omega, by rw [e 3 (by omega)]; omega, by rw [e 4 (by omega)]; omega⟩
    · exact ⟨by rw [e 2 (by omega)]; omega, by have e3 : up g (2 + 1) v 3 = v := e2; rw [e3]; simp at b3 b4; omega, by rw [e 4 (by omega)]; omega⟩
    · exact ⟨by rw [e 2 (by omega)]; omega, by rw [e 3 (by omega)]; omega, by have e3 : up g (2 + 2) v 4 = v := e2; rw [e3]; simp at b3 b4; omega⟩
  refine ⟨by rw [e 0 (by omega)]; exact a1, by rw [e 0 (by omega)]; exact a2, by rw [e 1 (by omega)]; exact a3, by rw [e 1 (by omega)]; exact a4, hset.1.1, hset.1.2, hset.2.1.1, hset.2.1.2, hset.2.2.1, hset.2.2.2, ?_, ?_, ?_⟩
  · intro i b1 b2
    rw [e 0 (by omega)] at b2
    rw [e _ (by omega)]
    exact a11 i b1 b2
  · intro i b1 b2
    rw [e 0 (by omega)] at b2
    rw [e _ (by omega)]
    refine ⟨(a12 i b1 b2).1, (a12 i b1 b2).2.1, fun n hn => ?_⟩
    rw [e 1 (by omega), e _ (by have := hn.1; omega)]
    exact (a12 i b1 b2).2.2 n hn
  · intro i b1 b2
    rw [e 1 (by omega)] at b2
    rw [e _ (by omega), e (126 + 80 * i) (by omega), e (187 + 80 * i) (by omega), e (196 + 80 * i) (by omega)]
    rcases a13 i b1 b2 with ⟨c1, c2, c3, c4, c5, c6, c7, c8, c9, c10⟩ | q
    · exact Or.inl ⟨c1, c2, c3, c4, c5, c6, c7, fun j d1 d2 => by rw [e _ (by omega)]; exact c8 j d1 d2, fun j d1 d2 => by rw [e _ (by omega)]; exact c9 j d1 d2, fun j d1 d2 => by rw [e _ (by omega)]; exact c10 j d1 d2⟩
    · exact Or.inr q
theorem PInv.cm {g : Int → Int} (h : PInv g) {p c : Int} (hp : 0 ≤ p ∧ p ≤ g 0) (hc : 0 ≤ c ∧ c < 26) (hn : g 0 < 60) : PInv (cmG g p c 0) := by
  obtain ⟨e0, e1, e2, e3, e4⟩ := cmG_at (g := g) (p := p) (c := c) (o := 0)
  have hnum := h.nums
  refine h.rows (e1 1 (by omega) (by omega)) ⟨e1 2 (by omega) (by omega), e1 3 (by omega) (by omega), e1 4 (by omega) (by omega)⟩ (by omega) (fun i h0 h1 => ?_) (fun i h0 h1 => ?_) e4
  · rw [e2 i h0 (by omega)]
    unfold ins
    by_cases c1 : i < p
    · rw [if_pos c1]; exact Or.inl ⟨i, h0, by omega, rfl⟩
    · rw [if_neg c1]
      by_cases c2 : i = p
      · rw [if_pos c2]; exact Or.inr (by omega)
      · rw [if_neg c2]; exact Or.inl ⟨i - 1, by omega, by omega, rfl⟩
  · rw [e3 i h0 (by omega)]
    unfold ins
    by_cases c1 : i < p
    · rw [if_pos c1]; exact Or.inl ⟨i, h0, by omega, rfl⟩
    · rw [if_neg c1]
      by_cases c2 : i = p
      · rw [if_pos c2]; exact Or.inr rfl
      · rw [if_neg c2]; exact Or.inl ⟨i - 1, by omega, by omega, rfl⟩
theorem PInv.dl {g : Int → Int} (h : PInv g) {a b : Int} (hp : 0 ≤ a ∧ a ≤ b ∧ b < g 0) : PInv (dlG g a b) := by
  obtain ⟨e0, e1, e2, e3, e4⟩ := dlG_at (g := g) (a := a) (b := b)
  have hnum := h.nums
  refine h.rows (e1 1 (by omega) (by omega)) ⟨e1 2 (by omega) (by omega), e1 3 (by omega) (by omega), e1 4 (by omega) (by omega)⟩ (by omega) (fun i h0 h1 => ?_) (fun i h0 h1 => ?_) e4
  · rw [e2 i h0 (by omega)]
    unfold del
    split
    · exact Or.inl ⟨i, h0, by omega, rfl⟩
    · exact Or.inl ⟨i + (b - a + 1), by omega, by omega, rfl⟩
  · rw [e3 i h0 (by omega)]
    unfold del
    split
    · exact Or.inl ⟨i, h0, by omega, rfl⟩
    · exact Or.inl ⟨i + (b - a + 1), by omega, by omega, rfl⟩
theorem PInv.mv {g : Int → Int} (h : PInv g) {a b p : Int} (hp : 0 ≤ a ∧ a ≤ b ∧ b < g 0) (hpl : 0 ≤ p ∧ p ≤ g 0 - (b - a + 1)) : PInv (mvG g a b p) := by
  obtain ⟨e1, e2, e3, e4⟩ := mvG_at (g := g) (a := a) (b := b) (p := p)
  have hnum := h.nums
  have e0 := e1 0 (by omega) (by omega)
  refine h.rows (e1 1 (by omega) (by omega)) ⟨e1 2 (by omega) (by omega), e1 3 (by omega) (by omega), e1 4 (by omega) (by omega)⟩ (by omega) (fun i h0 h1 => ?_) (fun i h0 h1 => ?_) e4
  · rw [e2 i h0 (by omega)]
    exact Or.inl (mvf_in _ hp hpl h0 (by omega))
  · rw [e3 i h0 (by omega)]
    exact Or.inl (mvf_in _ hp hpl h0 (by omega))


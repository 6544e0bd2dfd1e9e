theorem sc_pos {o : Int → Bool} : ∀ k : Nat, 0 < scL o k ↔ ∃ i : Int, 0 ≤ i ∧ i < k ∧ o i = true
  | 0 => ⟨fun h => by have : scL o 0 = 0 := rfl; omega, fun ⟨i, h0, h1, _⟩ => by omega⟩
  | k + 1 => by
    have ih := sc_pos (o := o) k
    have hb := sc_bd o k
    by_cases c : o (k : Int) = true
    · have e := (sc_yes c).2.1
      exact ⟨fun _ => ⟨(k : Int), by omega, by omega, c⟩, fun _ => by omega⟩
    · have e := (sc_no c).2.1
      rw [e]
      refine ⟨fun h => ?_, fun ⟨i, h0, h1, h2⟩ => ih.mpr ⟨i, h0, ?_, h2⟩⟩
      · obtain ⟨i, h0, h1, h2⟩ := ih.mp h
        exact ⟨i, h0, by omega, h2⟩
      · have : ¬ i = (k : Int) := fun z => c (by rw [← z]; exact h2)
        omega
theorem ex_step {Q : Int → Prop} {k : Nat} : (∃ j : Int, 0 ≤ j ∧ j < ((k + 1 : Nat) : Int) ∧ Q j) ↔ (∃ j : Int, 0 ≤ j ∧ j < (k : Int) ∧ Q j) ∨ Q k := by
  constructor
  · rintro ⟨j, h0, h1, h2⟩
    by_cases z : j = (k : Int)
    · right; rw [← z]; exact h2
    · exact Or.inl ⟨j, h0, by omega, h2⟩
  · rintro (⟨j, h0, h1, h2⟩ | h)
    · exact ⟨j, h0, by omega, h2⟩
    · exact ⟨(k : Int), by omega, by omega, h⟩
theorem orI_bit {g : Int → Int} {a b : Int} (i : Nat) : ∀ k : Nat, ((orI g a b k).1.testBit i = true ↔ ∃ j : Int, 0 ≤ j ∧ j < (k : Int) ∧ ((a ≤ j ∧ j ≤ b) ∧ (OW g j).toNat.testBit i = true)) ∧ ((orI g a b k).2.testBit i = true ↔ ∃ j : Int, 0 ≤ j ∧ j < (k : Int) ∧ (¬ (a ≤ j ∧ j ≤ b) ∧ (OW g j).toNat.testBit i = true))
  | 0 => by
    refine ⟨⟨fun h => ?_, fun ⟨j, h0, h1, _⟩ => by omega⟩, ⟨fun h => ?_, fun ⟨j, h0, h1, _⟩ => by omega⟩⟩
    · simp [orI] at h
    · simp [orI] at h
  | k + 1 => by
    obtain ⟨h1, h2⟩ := orI_bit (g := g) (a := a) (b := b) i k
    rw [ex_step, ex_step, ← h1, ← h2]
    have e : orI g a b (k + 1) = if a ≤ (k : Int) ∧ (k : Int) ≤ b then ((orI g a b k).1 ||| (OW g k).toNat, (orI g a b k).2) else ((orI g a b k).1, (orI g a b k).2 ||| (OW g k).toNat) := rfl
    rw [e]
    by_cases c : a ≤ (k : Int) ∧ (k : Int) ≤ b
    · rw [if_pos c]
      dsimp only
      rw [Nat.testBit_or, Bool.or_eq_true]
      exact ⟨⟨fun z => z.imp id (fun y => ⟨c, y⟩), fun z => z.imp id (fun y => y.2)⟩, ⟨Or.inl, fun z => z.elim id (fun y => absurd c y.1)⟩⟩
    · rw [if_neg c]
      dsimp only
      rw [Nat.testBit_or, Bool.or_eq_true]
      exact ⟨⟨Or.inl, fun z => z.elim id (fun y => absurd y.1 c)⟩, ⟨fun z => z.imp id (fun y => ⟨c, y⟩), fun z => z.imp id (fun y => y.2)⟩⟩
theorem ors_bit {g : Int → Int} {a b i : Int} (hi : 0 ≤ i ∧ i < 16) : btt (ors g a b) i = true ↔ (∃ j : Int, 0 ≤ j ∧ j < ((g 0).toNat : Int) ∧ ((a ≤ j ∧ j ≤ b) ∧ btt (OW g j) i = true)) ∧ ¬ ∃ j : Int, 0 ≤ j ∧ j < ((g 0).toNat : Int) ∧ (¬ (a ≤ j ∧ j ≤ b) ∧ btt (OW g j) i = true) := by
  obtain ⟨h1, h2⟩ := orI_bit (g := g) (a := a) (b := b) i.toNat (g 0).toNat
  have e1 : (∃ j : Int, 0 ≤ j ∧ j < ((g 0).toNat : Int) ∧ ((a ≤ j ∧ j ≤ b) ∧ btt (OW g j) i = true)) ↔ (orI g a b (g 0).toNat).1.testBit i.toNat = true := h1.symm
  have e2 : (∃ j : Int, 0 ≤ j ∧ j < ((g 0).toNat : Int) ∧ (¬ (a ≤ j ∧ j ≤ b) ∧ btt (OW g j) i = true)) ↔ (orI g a b (g 0).toNat).2.testBit i.toNat = true := h2.symm
  rw [e1, e2]
  unfold btt ors
  rw [Int.toNat_natCast, Nat.testBit_and, Nat.testBit_xor, show (65535 : Nat) = 2 ^ 16 - 1 from rfl, Nat.testBit_two_pow_sub_one, decide_eq_true (show i.toNat < 16 by omega)]
  cases (orI g a b (g 0).toNat).1.testBit i.toNat <;> cases (orI g a b (g 0).toNat).2.testBit i.toNat <;> simp
theorem ors_lo {g : Int → Int} {a b : Int} (hI : PInv g) {i : Int} (h : btt (ors g a b) i = true) (h0 : 0 ≤ i) : i < g 1 := by
  have hn := hI.nums
  obtain ⟨h1, -⟩ := orI_bit (g := g) (a := a) (b := b) i.toNat (g 0).toNat
  have h2 : (orI g a b (g 0).toNat).1.testBit i.toNat = true := by
    unfold btt ors at h
    rw [Int.toNat_natCast, Nat.testBit_and, Bool.and_eq_true] at h
    exact h.1
  obtain ⟨j, j0, j1, -, j3⟩ := h1.mp h2
  have ho := hI.own j j0 (by omega)
  have hlt := btt_lt (n := i) ho j3
  obtain ⟨-, -, -, -, -, -, -, -, -, -, -, h12, -⟩ := hI
  exact ((h12 j j0 (by omega)).2.2 i ⟨h0, hlt, j3⟩).1
theorem ntL_pos {g : Int → Int} {i : Int} (hi : 0 ≤ i ∧ i < 16) : 0 < ntL g i ↔ ∃ j : Int, 0 ≤ j ∧ j < ((g 0).toNat : Int) ∧ btt (g (65 + j)) i = true := by
  refine (sc_pos _).trans ⟨fun ⟨j, j0, j1, j2⟩ => ⟨j, j0, j1, ?_⟩, fun ⟨j, j0, j1, j2⟩ => ⟨j, j0, j1, decide_eq_true ⟨hi.1, hi.2, j2⟩⟩⟩
  have q : isin (OW g j) i := of_decide_eq_true j2
  exact q.2.2
theorem cnt_add {P P' Q : Int → Bool} : ∀ {k : Nat}, (∀ i : Int, 0 ≤ i → i < k → (if P' i = true then (1 : Int) else 0) = (if P i = true then 1 else 0) + (if Q i = true then 1 else 0)) → cnt P' k = cnt P k + cnt Q k
  | 0, _ => rfl
  | k + 1, h => by
    have ih := cnt_add (P := P) (P' := P') (Q := Q) (k := k) (fun i h0 h1 => h i h0 (by omega))
    have hk := h (k : Int) (by omega) (by omega)
    simp only [cnt]
    omega
theorem er_eq {g : Int → Int} {a b : Int} (hI : PInv g) (hp : 0 ≤ a ∧ a ≤ b ∧ b < g 0) : cst (dlG g a b) 1 - cst g 1 = popc (ors g a b) := by
  have hn := hI.nums
  obtain ⟨e0, e1, e2, e3, e4⟩ := dlG_at (g := g) (a := a) (b := b)
  have s2 := cnt_tail (P := fun i => btt (ors g a b) i) (a := (g 1).toNat) (fun i hi => by
    cases z : btt (ors g a b) i
    · rfl
    · have := ors_lo hI z (by omega)
      omega) (16 - (g 1).toNat)
  rw [show (g 1).toNat + (16 - (g 1).toNat) = 16 by omega] at s2
  have s3 : popc (ors g a b) = cnt (fun i => btt (ors g a b) i) (g 1).toNat := s2
  have s4 : cst (dlG g a b) 1 = cnt (fun n => decide (stt (dlG g a b) n = 1)) (g 1).toNat := by
    unfold cst
    rw [e1 1 (by omega) (by omega)]
  have s5 : cst g 1 = cnt (fun n => decide (stt g n = 1)) (g 1).toNat := rfl
  rw [s3, s4, s5]
  have key : cnt (fun n => decide (stt (dlG g a b) n = 1)) (g 1).toNat = cnt (fun n => decide (stt g n = 1)) (g 1).toNat + cnt (fun i => btt (ors g a b) i) (g 1).toNat := cnt_add (fun i i0 i1 => by
    have hi : 0 ≤ i ∧ i < 16 := by omega
    have ht : dlG g a b (125 + 80 * i) = g (125 + 80 * i) := e4 _ (by omega)
    have ho := ors_bit (g := g) (a := a) (b := b) hi
    have hp1 := ntL_pos (g := g) hi
    have hp2 := ntL_pos (g := dlG g a b) hi
    by_cases c : g (125 + 80 * i) = -6
    · have q1 : stt g i = 1 ↔ ¬ 0 < ntL g i := by
        unfold stt
        rw [if_neg (fun z => z c)]
        split <;> omega
      have q2 : stt (dlG g a b) i = 1 ↔ ¬ 0 < ntL (dlG g a b) i := by
        unfold stt
        rw [if_neg (fun z => z (ht.trans c))]
        split <;> omega
      have w1 : 0 < ntL g i ↔ (∃ j : Int, 0 ≤ j ∧ j < ((g 0).toNat : Int) ∧ ((a ≤ j ∧ j ≤ b) ∧ btt (OW g j) i = true)) ∨ ∃ j : Int, 0 ≤ j ∧ j < ((g 0).toNat : Int) ∧ (¬ (a ≤ j ∧ j ≤ b) ∧ btt (OW g j) i = true) := by
        refine hp1.trans ⟨fun ⟨j, j0, j1, j2⟩ => ?_, fun z => ?_⟩
        · by_cases y : a ≤ j ∧ j ≤ b
          · exact Or.inl ⟨j, j0, j1, y, j2⟩
          · exact Or.inr ⟨j, j0, j1, y, j2⟩
        · rcases z with ⟨j, j0, j1, -, j2⟩ | ⟨j, j0, j1, -, j2⟩
          · exact ⟨j, j0, j1, j2⟩
          · exact ⟨j, j0, j1, j2⟩
      have w2 : 0 < ntL (dlG g a b) i ↔ ∃ j : Int, 0 ≤ j ∧ j < ((g 0).toNat : Int) ∧ (¬ (a ≤ j ∧ j ≤ b) ∧ btt (OW g j) i = true) := by
        refine hp2.trans ⟨fun ⟨j, j0, j1, j2⟩ => ?_, fun ⟨j, j0, j1, j2, j3⟩ => ?_⟩
        · rw [e0] at j1
          rw [e3 j j0 (by omega)] at j2
          unfold del at j2
          by_cases y : j < a
          · rw [if_pos y] at j2
            exact ⟨j, j0, by omega, by omega, j2⟩
          · rw [if_neg y] at j2
            exact ⟨j + (b - a + 1), by omega, by omega, by omega, j2⟩
        · by_cases y : j < a
          · refine ⟨j, j0, by rw [e0]; omega, ?_⟩
            rw [e3 j j0 (by omega)]
            unfold del
            rw [if_pos y]
            exact j3
          · refine ⟨j - (b - a + 1), by omega, by rw [e0]; omega, ?_⟩
            rw [e3 _ (by omega) (by omega)]
            unfold del
            rw [if_neg (by omega), show j - (b - a + 1) + (b - a + 1) = j by omega]
            exact j3
      rw [← w2] at w1 ho
      by_cases A : ∃ j : Int, 0 ≤ j ∧ j < ((g 0).toNat : Int) ∧ ((a ≤ j ∧ j ≤ b) ∧ btt (OW g j) i = true)
      · by_cases B : 0 < ntL (dlG g a b) i
        · rw [if_neg (by rw [decide_eq_true_eq, q2]; exact fun z => z B), if_neg (by rw [decide_eq_true_eq, q1, w1]; exact fun z => z (Or.inr B)), if_neg (by rw [ho]; exact fun z => z.2 B)]; rfl
        · rw [if_pos (by rw [decide_eq_true_eq, q2]; exact B), if_neg (by rw [decide_eq_true_eq, q1, w1]; exact fun z => z (Or.inl A)), if_pos (by rw [ho]; exact ⟨A, B⟩)]; rfl
      · by_cases B : 0 < ntL (dlG g a b) i
        · rw [if_neg (by rw [decide_eq_true_eq, q2]; exact fun z => z B), if_neg (by rw [decide_eq_true_eq, q1, w1]; exact fun z => z (Or.inr B)), if_neg (by rw [ho]; exact fun z => z.2 B)]; rfl
        · rw [if_pos (by rw [decide_eq_true_eq, q2]; exact B), if_pos (by rw [decide_eq_true_eq, q1, w1]; exact fun z => z.elim A B), if_neg (by rw [ho]; exact fun z => A z.1)]; rfl
    · have q1 : stt g i = 2 := if_pos c
      have q2 : stt (dlG g a b) i = 2 := if_pos (fun z => c (ht.symm.trans z))
      have q3 : ¬ btt (ors g a b) i = true := fun z => by
        obtain ⟨⟨j, j0, j1, -, j3⟩, -⟩ := ho.mp z
        obtain ⟨-, -, -, -, -, -, -, -, -, -, -, h12, -⟩ := hI
        exact c ((h12 j j0 (by omega)).2.2 i ⟨hi.1, hi.2, j3⟩).2
      rw [if_neg (by rw [decide_eq_true_eq, q2]; omega), if_neg (by rw [decide_eq_true_eq, q1]; omega), if_neg q3]; rfl)
  omega
/-- k of the letters that were taken out stand again, from p on -/
def mvk (f : Int → Int) (a b p k : Int) : Int → Int := fun j => if p ≤ j ∧ j < p + k then f (a + (j - p)) else del f a b (if j < p then j else j - k)
def MvI (f : Int → Int) (a b p k : Int) (F : Int → Int) : Prop := F 0 = f 0 - (b - a + 1) + k ∧ (∀ j : Int, 0 < j → j < 5 → F j = f j) ∧ (∀ i : Int, 0 ≤ i → i < F 0 → F (5 + i) = mvk (LT f) a b p k i ∧ F (65 + i) = mvk (OW f) a b p k i) ∧ ∀ j : Int, 125 ≤ j → F j = f j
theorem glX_hi {f : Int → Int} {a w x j : Int} (h : 125 ≤ j) (hx : x ≤ 60) : glX f a w x j = f j := (if_neg (by omega)).trans (if_neg (by omega))
theorem mvk_0 {f : Int → Int} {a b p i : Int} : mvk f a b p 0 i = del f a b i := by
  unfold mvk
  rw [if_neg (show ¬ (p ≤ i ∧ i < p + 0) by omega)]
  by_cases c : i < p
  · rw [if_pos c]
  · rw [if_neg c, Int.sub_zero]
theorem mv_0 {f : Int → Int} {a b p : Int} (hp : 0 ≤ a ∧ a ≤ b ∧ b < f 0 ∧ f 0 ≤ 60) : MvI f a b p 0 (glX f a (b - a + 1) (f 0 - (b - a + 1))) := by
  have e := glX_eq hp
  obtain ⟨e0, e1, e2, e3, e4⟩ := dlG_at (g := f) (a := a) (b := b)
  have g0 := e.1 0 (by omega) (by omega)
  refine ⟨by omega, fun j j0 j1 => by rw [← e.1 j (by omega) j1]; exact e1 j j0 j1, fun i i0 i1 => ?_, fun j hj => glX_hi hj (by omega)⟩
  have q := e.2.1 i i0 (by omega)
  rw [← q.1, ← q.2, e2 i i0 (by omega), e3 i i0 (by omega), mvk_0, mvk_0]
  exact ⟨rfl, rfl⟩
theorem mvk_step {f : Int → Int} {a b p k : Int} (hk : 0 ≤ k) (hp : 0 ≤ p) : ins (mvk f a b p k) (p + k) (f (a + k)) = mvk f a b p (k + 1) := by
  funext j
  unfold ins mvk
  by_cases c : j < p + k
  · rw [if_pos c]
    by_cases c2 : p ≤ j ∧ j < p + k
    · rw [if_pos c2, if_pos (show p ≤ j ∧ j < p + (k + 1) by omega)]
    · have y : j < p := by omega
      rw [if_neg c2, if_neg (show ¬ (p ≤ j ∧ j < p + (k + 1)) by omega), if_pos y, if_pos y]
  · rw [if_neg c]
    by_cases c3 : j = p + k
    · rw [if_pos c3, if_pos (show p ≤ j ∧ j < p + (k + 1) by omega)]; congr 1; omega
    · rw [if_neg c3, if_neg (show ¬ (p ≤ j - 1 ∧ j - 1 < p + k) by omega), if_neg (show ¬ (p ≤ j ∧ j < p + (k + 1)) by omega), if_neg (show ¬ j - 1 < p by omega), if_neg (show ¬ j < p by omega)]; congr 1; omega
theorem mv_step {f F : Int → Int} {a b p k : Int} (h : MvI f a b p k F) (hp : 0 ≤ a ∧ a ≤ b ∧ b < f 0 ∧ f 0 ≤ 60) (hpl : 0 ≤ p ∧ p ≤ f 0 - (b - a + 1)) (hk : 0 ≤ k ∧ k < b - a + 1) : MvI f a b p (k + 1) (cmY F (p + k) (f (5 + a + k)) (f (65 + a + k))) := by
  obtain ⟨h0, h1, h2, h3⟩ := h
  have e := cmY_eq (f := F) (p := p + k) (c := f (5 + a + k)) (o := f (65 + a + k)) (by omega) (by omega)
  obtain ⟨e0, e1, e2, e3, e4⟩ := cmG_at (g := F) (p := p + k) (c := f (5 + a + k)) (o := f (65 + a + k))
  have g0 := e.1 0 (by omega) (by omega)
  refine ⟨by omega, fun j j0 j1 => by rw [← e.1 j (by omega) j1, e1 j j0 j1]; exact h1 j j0 j1, fun i i0 i1 => ?_, fun j hj => ?_⟩
  · have q := e.2.1 i i0 (by omega)
    rw [← q.1, ← q.2, e2 i i0 (by omega), e3 i i0 (by omega)]
    have c1 : f (5 + a + k) = LT f (a + k) := by show _ = f (5 + (a + k)); congr 1; omega
    have c2 : f (65 + a + k) = OW f (a + k) := by show _ = f (65 + (a + k)); congr 1; omega
    rw [c1, c2, ← mvk_step (f := LT f) hk.1 hpl.1, ← mvk_step (f := OW f) hk.1 hpl.1]
    have i2 : i < F 0 + 1 := by omega
    unfold ins
    by_cases z : i < p + k
    · rw [if_pos z, if_pos z, if_pos z, if_pos z]; exact h2 i i0 (by omega)
    · rw [if_neg z, if_neg z, if_neg z, if_neg z]
      by_cases z2 : i = p + k
      · rw [if_pos z2, if_pos z2, if_pos z2, if_pos z2]; exact ⟨rfl, rfl⟩
      · rw [if_neg z2, if_neg z2, if_neg z2, if_neg z2]; exact h2 (i - 1) (by omega) (by omega)
  · have y : cmY F (p + k) (f (5 + a + k)) (f (65 + a + k)) j = F j := (if_neg (by omega)).trans ((if_neg (by omega)).trans ((if_neg (by omega)).trans (if_neg (by omega))))
    rw [y]; exact h3 j hj
theorem mv_end {f F : Int → Int} {a b p : Int} (h : MvI f a b p (b - a + 1) F) (hp : 0 ≤ a ∧ a ≤ b ∧ b < f 0 ∧ f 0 ≤ 60) : MEq (mvG f a b p) F := by
  obtain ⟨h0, h1, h2, h3⟩ := h
  obtain ⟨e1, e2, e3, e4⟩ := mvG_at (g := f) (a := a) (b := b) (p := p)
  have em : ∀ (q : Int → Int) (i : Int), mvf q a b p i = mvk q a b p (b - a + 1) i := fun q i => by
    unfold mvf mvk del
    by_cases c : p ≤ i ∧ i ≤ p + (b - a)
    · rw [if_pos c, if_pos (by omega)]
    · rw [if_neg c, if_neg (show ¬ (p ≤ i ∧ i < p + (b - a + 1)) by omega)]
  refine ⟨fun j j0 j1 => ?_, fun i i0 i1 => ?_, fun i i0 i1 => NEq.of i0 (fun j hj => (e4 j hj).trans (h3 j hj).symm)⟩
  · rw [e1 j j0 j1]
    by_cases z : j = 0
    · rw [z]; omega
    · exact (h1 j (by omega) j1).symm
  · rw [e1 0 (by omega) (by omega)] at i1
    rw [e2 i i0 (by omega), e3 i i0 (by omega), em, em]
    have q := h2 i i0 (by omega)
    exact ⟨q.1.symm, q.2.symm⟩
theorem Fr.unw {a b c d a' b' c' d' e : Nat} {H H' : Heap} (h : Fr (Un a b c d) e H H') (z : a' ≤ a ∧ b ≤ b' ∧ c' ≤ c ∧ d ≤ d') : Fr (Un a' b' c' d') e H H' :=
  h.mono (fun p _ hp => hp.elim (fun q => Or.inl ⟨Nat.le_trans z.1 q.1, Nat.lt_of_lt_of_le q.2 z.2.1⟩) (fun q => Or.inr ⟨Nat.le_trans z.2.2.1 q.1, Nat.lt_of_lt_of_le q.2 z.2.2.2⟩))

abbrev rm_X9_erases : Room := { frames := 4, cells := 0, slots := 0, locals := 88 }
theorem cs_X9_erases_104 : zCV RX9 wsX9_erases 104 9 yX9_orphans wsX9_orphans cX9_orphans 3 (some .int) rm_X9_erases rm_X9_orphans 0 := ⟨_, _, gX9_erases_X9_orphans, rfl, ⟨by decide +kernel, by decide +kernel, by decide +kernel⟩, ⟨Nat.le_of_ble_eq_true rfl, Nat.le_of_ble_eq_true rfl⟩, rfl, rfl⟩
theorem cs_X9_erases_108 : zCV RX9 wsX9_erases 108 9 yX9_goes wsX9_goes cX9_goes 5 none rm_X9_erases rm_X9_goes 2 := ⟨_, _, gX9_erases_X9_goes, rfl, ⟨by decide +kernel, by decide +kernel, by decide +kernel⟩, ⟨Nat.le_of_ble_eq_true rfl, Nat.le_of_ble_eq_true rfl⟩, rfl, rfl⟩
set_option maxRecDepth 100000 in
theorem c_X9_erases (l : Launch) (D : zD) (base : Nat) (y : Nat) (kp pd at' od fi la pc : Int) (f : Int → Int) (a b : Int) (hq : base ≤ y) (hI : PInv f) (hp : 0 ≤ a ∧ a ≤ b ∧ b < f 0) : Ct l yX9_erases wsX9_erases rm_X9_erases D base [.ref y, .int (J a), .int (J b)] (fun H => MoO D y kp pd at' od fi la pc H ∧ NwAt D y f H) (PI (fun H v H1 => popc (ors f a b) = v ∧ MoO D y kp pd at' od fi la pc H1 ∧ NwAt D y (glX f a (b - a + 1) (f 0 - (b - a + 1))) H1 ∧ Fr (Iv (y + 1) (y + 2)) 0 H H1)) := by
  refine Ct.of (own := RX9) (cc := cX9_erases) (maxL := 4) (by decide +kernel) rfl (Nat.le_of_ble_eq_true rfl) rfl ?_
  intro K H X R hH hnm hP
  show G K 0 0 H 0 [(0, .ref y), (1, .int (J a)), (2, .int (J b))] []
  obtain ⟨hO, hNw⟩ := hP
  have hnum := hI.nums
  refine g_aload_n (pc := 0) (pl := 0) X dX9_erases_0 rfl ?_
  refine gVi (pc := 1) (n2 := 0) (k2 := 0) X cs_X9_erases_104 (c_X9_orphans (zl K) D base y kp pd at' od fi la pc f hq hI) rfl hO (by omega) ⟨hO, hNw⟩ rfl ⟨Nat.le_of_ble_eq_true rfl, Nat.le_of_ble_eq_true rfl⟩ dX9_erases_1 (Nat.le_of_ble_eq_true rfl) rfl rfl (fun v1 H1 hp1 hs1 => ?_)
  obtain ⟨rfl, rfl⟩ := hp1
  refine g_istore_n (pc := 4) (lv' := [(3, _), (0, _), (1, _), (2, _)]) X dX9_erases_4 (by decide) rfl ?_
  refine g_aload_n (pc := 5) (pl := 1) X dX9_erases_5 rfl ?_
  refine g_iload_n (pc := 6) (pl := 2) X dX9_erases_6 rfl ?_
  refine g_iload_n (pc := 7) (pl := 3) X dX9_erases_7 rfl ?_
  refine gVv (pc := 8) (n2 := 0) (k2 := 0) X cs_X9_erases_108 (c_X9_goes (zl K) D base y kp pd at' od fi la pc f a b hq (by omega)) rfl hO (by omega) ⟨hO, hNw⟩ rfl ⟨Nat.le_of_ble_eq_true rfl, Nat.le_of_ble_eq_true rfl⟩ dX9_erases_8 (Nat.le_of_ble_eq_true rfl) rfl rfl (fun H1 hp8 hs8 => ?_)
  obtain ⟨hOn, hNwn, hfg⟩ := hp8
  clear hO hNw
  have hO := hOn
  have hNw := hNwn
  clear hOn hNwn
  refine g_aload_n (pc := 11) (pl := 1) X dX9_erases_11 rfl ?_
  have hgl := glX_eq (f := f) (a := a) (b := b) (by omega)
  have hI2 := (hI.dl (by omega)).meq hgl
  refine gVi (pc := 12) (n2 := 0) (k2 := 0) X cs_X9_erases_104 (c_X9_orphans (zl K) D base y kp pd at' od fi la pc (glX f a (b - a + 1) (f 0 - (b - a + 1))) hq hI2) rfl hO (by omega) ⟨hO, hNw⟩ rfl ⟨Nat.le_of_ble_eq_true rfl, Nat.le_of_ble_eq_true rfl⟩ dX9_erases_12 (Nat.le_of_ble_eq_true rfl) rfl rfl (fun v12 H2 hp12 hs12 => ?_)
  obtain ⟨rfl, rfl⟩ := hp12
  refine g_iload_n (pc := 15) (pl := 0) X dX9_erases_15 rfl ?_
  refine g_isub (pc := 16) X dX9_erases_16 ?_
  refine g_iret (pc := 17) X R hH dX9_erases_17 ?_
  rw [← mq_cst hgl 1, er_eq hI hp]
  exact ⟨rfl, hO, hNw, (hfg.wide (by omega) (by omega))⟩

abbrev rm_X9_erase : Room := { frames := 5, cells := 0, slots := 0, locals := 111 }
theorem cs_X9_erase_112 : zCV RX9 wsX9_erase 112 9 yX9_maySpan wsX9_maySpan cX9_maySpan 3 (some .int) rm_X9_erase rm_X9_maySpan 2 := ⟨_, _, gX9_erase_X9_maySpan, rfl, ⟨by decide +kernel, by decide +kernel, by decide +kernel⟩, ⟨Nat.le_of_ble_eq_true rfl, Nat.le_of_ble_eq_true rfl⟩, rfl, rfl⟩
theorem cs_X9_erase_57 : zCV RX9 wsX9_erase 57 9 yX9_records wsX9_records cX9_records 2 none rm_X9_erase rm_X9_records 0 := ⟨_, _, gX9_erase_X9_records, rfl, ⟨by decide +kernel, by decide +kernel, by decide +kernel⟩, ⟨Nat.le_of_ble_eq_true rfl, Nat.le_of_ble_eq_true rfl⟩, rfl, rfl⟩
theorem cs_X9_erase_115 : zCV RX9 wsX9_erase 115 9 yX9_erases wsX9_erases cX9_erases 4 (some .int) rm_X9_erase rm_X9_erases 2 := ⟨_, _, gX9_erase_X9_erases, rfl, ⟨by decide +kernel, by decide +kernel, by decide +kernel⟩, ⟨Nat.le_of_ble_eq_true rfl, Nat.le_of_ble_eq_true rfl⟩, rfl, rfl⟩
set_option maxRecDepth 100000 in
theorem c_X9_erase (l : Launch) (D : zD) (base : Nat) (y : Nat) (kp pd at' od fi la pc : Int) (f : Int → Int) (st : Int → Int → Int) (a b : Int) (hq : base ≤ y) (hI : PInv f) (hkp : 0 ≤ kp ∧ kp ≤ 6) (ha : rg a) (hb : rg b) : Ct l yX9_erase wsX9_erase rm_X9_erase D base [.ref y, .int (J a), .int (J b)] (fun H => MoO D y kp pd at' od fi la pc H ∧ NwAt D y f H ∧ PaAt D y kp st H) (PI (fun H v H1 => erR f a b = v ∧ (∃ f2 : Int → Int, MEq (erG f a b) f2 ∧ NwAt D y f2 H1) ∧ MoO D y (hsN kp (erR f a b)) pd at' od fi la pc H1 ∧ PaAt D y (hsN kp (erR f a b)) (hsS kp (erR f a b) st f) H1 ∧ Fr (Iv y (y + 3)) 0 H H1)) := by
  refine Ct.of (own := RX9) (cc := cX9_erase) (maxL := 4) (by decide +kernel) rfl (Nat.le_of_ble_eq_true rfl) rfl ?_
  intro K H X R hH hnm hP
  show G K 0 0 H 0 [(0, .ref y), (1, .int (J a)), (2, .int (J b))] []
  obtain ⟨hO, hNw, hPa⟩ := hP
  have hnum := hI.nums
  refine g_aload_n (pc := 0) (pl := 0) X dX9_erase_0 rfl ?_
  refine g_iload_n (pc := 1) (pl := 1) X dX9_erase_1 rfl ?_
  refine g_iload_n (pc := 2) (pl := 2) X dX9_erase_2 rfl ?_
  refine gVi (pc := 3) (n2 := 0) (k2 := 0) X cs_X9_erase_112 (c_X9_maySpan (zl K) D base y kp pd at' od fi la pc f a b hq hI ha hb) rfl hO (by omega) ⟨hO, hNw⟩ rfl ⟨Nat.le_of_ble_eq_true rfl, Nat.le_of_ble_eq_true rfl⟩ dX9_erase_3 (Nat.le_of_ble_eq_true rfl) rfl rfl (fun v3 H1 hp3 hs3 => ?_)
  obtain ⟨rfl, rfl⟩ := hp3
  have hpe := perr_bd f a b
  refine g_istore_n (pc := 6) (lv' := [(3, _), (0, _), (1, _), (2, _)]) X dX9_erase_6 (by decide) rfl ?_
  refine g_iload_n (pc := 7) (pl := 0) X dX9_erase_7 rfl ?_
  refine g_if_eq (pc := 8) X 13 dX9_erase_8 (by decide) (by omega) (fun c8 => ?_) (fun c8 => ?_)
  · skip
    refine g_aload_n (pc := 13) (pl := 1) X dX9_erase_13 rfl ?_
    obtain ⟨ps, hPs, hst⟩ := id hPa
    refine gVv (pc := 14) (n2 := 0) (k2 := 0) X cs_X9_erase_57 (c_X9_records (zl K) D base y kp pd at' od fi la pc f ps hq hkp) rfl hO (by omega) ⟨hO, hNw, hPs⟩ rfl ⟨Nat.le_of_ble_eq_true rfl, Nat.le_of_ble_eq_true rfl⟩ dX9_erase_14 (Nat.le_of_ble_eq_true rfl) rfl rfl (fun H1 hp14 hs14 => ?_)
    obtain ⟨hOn, hNwn, ⟨ps2, hPs2, hr2⟩, hfr⟩ := hp14
    have hPan : PaAt D y (hpN kp) (hpS kp st f) H1 := ⟨ps2, hPs2, hpS_rec hkp hst hr2⟩
    clear hO hNw hPa hPs
    have hO := hOn
    have hNw := hNwn
    have hPa := hPan
    clear hOn hNwn hPan hPs2
    refine g_aload_n (pc := 17) (pl := 1) X dX9_erase_17 rfl ?_
    refine g_iload_n (pc := 18) (pl := 2) X dX9_erase_18 rfl ?_
    refine g_iload_n (pc := 19) (pl := 3) X dX9_erase_19 rfl ?_
    have hab := perr_ok (g := f) (a := a) (b := b) (by omega)
    refine gVi (pc := 20) (n2 := 0) (k2 := 0) X cs_X9_erase_115 (c_X9_erases (zl K) D base y (hpN kp) pd at' od fi la pc f a b hq hI hab) rfl hO (by omega) ⟨hO, hNw⟩ rfl ⟨Nat.le_of_ble_eq_true rfl, Nat.le_of_ble_eq_true rfl⟩ dX9_erase_20 (Nat.le_of_ble_eq_true rfl) rfl rfl (fun v20 H2 hp20 hs20 => ?_)
    obtain ⟨rfl, hOn, hNwn, hfc⟩ := hp20
    replace hO := hO.fr hfc (by omega)
    replace hPa := hPa.fr hfc (by omega)
    clear hO hNw
    have hO := hOn
    have hNw := hNwn
    refine g_iret (pc := 23) X R hH dX9_erase_23 ?_
    have er : erR f a b = popc (ors f a b) := if_neg (by omega)
    have hpc := popc_rg (ors f a b)
    have eg : erG f a b = dlG f a b := if_neg (by omega)
    rw [er, eg]
    rw [show hsN kp (popc (ors f a b)) = hpN kp from if_neg (by omega), show hsS kp (popc (ors f a b)) st f = hpS kp st f from if_neg (by omega)]
    exact ⟨rfl, ⟨_, glX_eq (by omega), hNw⟩, hO, hPa, (Fr.trans (hfr.wide (by omega) (by omega)) (hfc.wide (by omega) (by omega)))⟩
  · skip
    refine g_iload_n (pc := 11) (pl := 0) X dX9_erase_11 rfl ?_
    refine g_iret (pc := 12) X R hH dX9_erase_12 ?_
    have er : erR f a b = perr f a b := if_pos (by omega)
    rw [er]
    rw [show hsN kp (perr f a b) = kp from if_pos (by omega), show hsS kp (perr f a b) st f = st from if_pos (by omega)]
    exact ⟨rfl, ⟨f, by rw [show erG f a b = f from if_pos (by omega)]; exact MEq.refl _, hNw⟩, hO, hPa, Fr.refl _ _⟩

abbrev rm_X9_moves : Room := { frames := 1, cells := 0, slots := 0, locals := 24 }
theorem cs_X9_moves_108 : zCV RX9 wsX9_moves 108 9 yX9_goes wsX9_goes cX9_goes 5 none rm_X9_moves rm_X9_goes 2 := ⟨_, _, gX9_moves_X9_goes, rfl, ⟨by decide +kernel, by decide +kernel, by decide +kernel⟩, ⟨Nat.le_of_ble_eq_true rfl, Nat.le_of_ble_eq_true rfl⟩, rfl, rfl⟩
theorem zF_X9_moves_38 : zF RX9 wsX9_moves 9 16 38 := ⟨RX9, TX9, 17, rfl, by decide +kernel, by decide, by decide +kernel⟩
theorem cs_X9_moves_97 : zCV RX9 wsX9_moves 97 9 yX9_comes wsX9_comes cX9_comes 5 none rm_X9_moves rm_X9_comes 3 := ⟨_, _, gX9_moves_X9_comes, rfl, ⟨by decide +kernel, by decide +kernel, by decide +kernel⟩, ⟨Nat.le_of_ble_eq_true rfl, Nat.le_of_ble_eq_true rfl⟩, rfl, rfl⟩
theorem zF_X9_moves_7 : zF RX9 wsX9_moves 9 0 7 := ⟨RX9, TX9, 17, rfl, by decide +kernel, by decide, by decide +kernel⟩
set_option maxRecDepth 100000 in
theorem c_X9_moves (l : Launch) (D : zD) (base : Nat) (y : Nat) (kp pd at' od fi la pc : Int) (f : Int → Int) (T : Int → Int) (a b p : Int) (hq : base ≤ y) (hp : 0 ≤ a ∧ a ≤ b ∧ b < f 0 ∧ f 0 ≤ 60) (hpl : 0 ≤ p ∧ p ≤ f 0 - (b - a + 1)) : Ct l yX9_moves wsX9_moves rm_X9_moves D base [.ref y, .int (J a), .int (J b), .int (J p)] (fun H => MoO D y kp pd at' od fi la pc H ∧ NwAt D y f H ∧ Ia D (y + 10) 120 T H) (PV (fun H H1 => MoO D y kp pd at' od fi la pc H1 ∧ (∃ F : Int → Int, MEq (mvG f a b p) F ∧ NwAt D y F H1) ∧ (∃ T2 : Int → Int, Ia D (y + 10) 120 T2 H1) ∧ Fr (Un (y + 1) (y + 2) (y + 10) (y + 11)) 0 H H1)) := by
  refine Ct.of (own := RX9) (cc := cX9_moves) (maxL := 6) (by decide +kernel) rfl (Nat.le_of_ble_eq_true rfl) rfl ?_
  intro K H X R hH hnm hP
  show G K 0 0 H 0 [(0, .ref y), (1, .int (J a)), (2, .int (J b)), (3, .int (J p))] []
  obtain ⟨hO, hNw, hTk⟩ := hP
  refine g_iload_n (pc := 0) (pl := 2) X dX9_moves_0 rfl ?_
  refine g_iload_n (pc := 1) (pl := 1) X dX9_moves_1 rfl ?_
  refine g_isub (pc := 2) X dX9_moves_2 ?_
  refine g_iconst (pc := 3) X dX9_moves_3 ?_
  refine g_iadd (pc := 4) X dX9_moves_4 ?_
  refine g_istore (pc := 5) (lv' := [(4, _), (0, _), (1, _), (2, _), (3, _)]) X dX9_moves_5 (by decide) rfl ?_
  refine g_iconst (pc := 7) X dX9_moves_7 ?_
  refine g_istore (pc := 8) (lv' := [(5, _), (4, _), (0, _), (1, _), (2, _), (3, _)]) X dX9_moves_8 (by decide) rfl ?_
  have hL10 : ∀ (fu : Nat) (k : Nat) (ki : Int) (T1 : Int → Int) (Hx : Heap), (b - a + 1).toNat - k < fu → (ki = (k : Int)) → ((k : Int) ≤ b - a + 1) → (∀ i : Int, 0 ≤ i → i < k → T1 (2 * i) = f (5 + a + i) ∧ T1 (2 * i + 1) = f (65 + a + i)) → (MoO D y kp pd at' od fi la pc Hx) → (NwAt D y f Hx) → (Ia D (y + 10) 120 T1 Hx) → (Fr (Un (y + 1) (y + 2) (y + 10) (y + 11)) 0 H Hx) → G K 0 0 Hx 10 [(0, .ref y), (1, .int (J a)), (2, .int (J b)), (3, .int (J p)), (4, .int (J (b - a + 1))), (5, .int (J ki))] [] := by
    intro fu
    induction fu with
    | zero => intro k ki T1 Hx hm; exact absurd hm (Nat.not_lt_zero _)
    | succ fu ih10 =>
      intro k ki T1 Hx hm he h1 hT hO hNw hTk hu3
      subst he
      refine g_iload (pc := 10) (pl := 5) X dX9_moves_10 rfl ?_
      refine g_iload (pc := 12) (pl := 4) X dX9_moves_12 rfl ?_
      refine g_icmp_ge (pc := 14) X 66 dX9_moves_14 (by decide) (by omega) (by omega) (fun c14 => ?_) (fun c14 => ?_)
      · skip
        refine g_aload_n (pc := 66) (pl := 0) X dX9_moves_66 rfl ?_
        refine g_iload_n (pc := 67) (pl := 1) X dX9_moves_67 rfl ?_
        refine g_iload_n (pc := 68) (pl := 2) X dX9_moves_68 rfl ?_
        refine gVv (pc := 69) (n2 := 0) (k2 := 0) X cs_X9_moves_108 (c_X9_goes (zl K) D base y kp pd at' od fi la pc f a b hq (by omega)) rfl hO (by omega) ⟨hO, hNw⟩ rfl ⟨Nat.le_of_ble_eq_true rfl, Nat.le_of_ble_eq_true rfl⟩ dX9_moves_69 (Nat.le_of_ble_eq_true rfl) rfl rfl (fun H1 hp69 hs69 => ?_)
        obtain ⟨hOn, hNwn, hfg⟩ := hp69
        replace hTk := hTk.fr hfg (by omega)
        clear hO hNw
        have hO := hOn
        have hNw := hNwn
        clear hOn hNwn
        refine g_iconst (pc := 72) X dX9_moves_72 ?_
        refine g_istore (pc := 73) (lv' := [(5, _), (0, _), (1, _), (2, _), (3, _), (4, _)]) X dX9_moves_73 (by decide) rfl ?_
        have hL75 : ∀ (fu : Nat) (k : Nat) (ki : Int) (F : Int → Int) (Hx : Heap), (b - a + 1).toNat - k < fu → (ki = (k : Int)) → ((k : Int) ≤ b - a + 1) → (MvI f a b p (k : Int) F) → (MoO D y kp pd at' od fi la pc Hx) → (NwAt D y F Hx) → (Ia D (y + 10) 120 T1 Hx) → (Fr (Un (y + 1) (y + 2) (y + 10) (y + 11)) 0 H Hx) → G K 0 0 Hx 75 [(0, .ref y), (1, .int (J a)), (2, .int (J b)), (3, .int (J p)), (4, .int (J (b - a + 1))), (5, .int (J ki))] [] := by
          intro fu
          induction fu with
          | zero => intro k ki F Hx hm; exact absurd hm (Nat.not_lt_zero _)
          | succ fu ih75 =>
            intro k ki F Hx hm he h1 hM hO hNw hTk hu4
            subst he
            refine g_iload (pc := 75) (pl := 5) X dX9_moves_75 rfl ?_
            refine g_iload (pc := 77) (pl := 4) X dX9_moves_77 rfl ?_
            refine g_icmp_ge (pc := 79) X 116 dX9_moves_79 (by decide) (by omega) (by omega) (fun c79 => ?_) (fun c79 => ?_)
            · skip
              refine g_vret (pc := 116) X R hH dX9_moves_116 ?_
              have ek : (k : Int) = b - a + 1 := by omega
              rw [ek] at hM
              exact ⟨hO, ⟨F, mv_end hM hp, hNw⟩, ⟨_, hTk⟩, hu4⟩
            · skip
              refine g_aload_n (pc := 82) (pl := 0) X dX9_moves_82 rfl ?_
              refine g_iload_n (pc := 83) (pl := 3) X dX9_moves_83 rfl ?_
              refine g_iload (pc := 84) (pl := 5) X dX9_moves_84 rfl ?_
              refine g_iadd (pc := 86) X dX9_moves_86 ?_
              refine g_aload_n (pc := 87) (pl := 0) X dX9_moves_87 rfl ?_
              refine g_getf (pc := 88) X zF_X9_moves_38 hO rfl dX9_moves_88 ?_
              refine g_iconst (pc := 91) X dX9_moves_91 ?_
              refine g_iload (pc := 92) (pl := 5) X dX9_moves_92 rfl ?_
              refine g_imul (pc := 94) X dX9_moves_94 ?_
              refine g_iaload (pc := 95) X hTk (by omega) (by omega) (by omega) dX9_moves_95 ?_
              rw [show T1 (2 * (k : Int)) = f (5 + a + (k : Int)) from (hT (k : Int) (by omega) (by omega)).1]
              refine g_aload_n (pc := 96) (pl := 0) X dX9_moves_96 rfl ?_
              refine g_getf (pc := 97) X zF_X9_moves_38 hO rfl dX9_moves_97 ?_
              refine g_iconst (pc := 100) X dX9_moves_100 ?_
              refine g_iload (pc := 101) (pl := 5) X dX9_moves_101 rfl ?_
              refine g_imul (pc := 103) X dX9_moves_103 ?_
              refine g_iconst (pc := 104) X dX9_moves_104 ?_
              refine g_iadd (pc := 105) X dX9_moves_105 ?_
              refine g_iaload (pc := 106) X hTk (by omega) (by omega) (by omega) dX9_moves_106 ?_
              rw [show T1 ((2 * (k : Int)) + 1) = f (65 + a + (k : Int)) from (hT (k : Int) (by omega) (by omega)).2]
              refine gVv (pc := 107) (n2 := 0) (k2 := 0) X cs_X9_moves_97 (c_X9_comes (zl K) D base y kp pd at' od fi la pc F (p + (k : Int)) (f (5 + a + (k : Int))) (f (65 + a + (k : Int))) hq (by have := hM.1; omega)) rfl hO (by omega) ⟨hO, hNw⟩ rfl ⟨Nat.le_of_ble_eq_true rfl, Nat.le_of_ble_eq_true rfl⟩ dX9_moves_107 (Nat.le_of_ble_eq_true rfl) rfl rfl (fun H2 hp107 hs107 => ?_)
              obtain ⟨hOn, hNwn, hfc⟩ := hp107
              replace hTk := hTk.fr hfc (by omega)
              clear hO hNw
              have hO := hOn
              have hNw := hNwn
              clear hOn hNwn
              refine g_iinc (pc := 110) (pl := 5) (x := (k : Int)) (lv' := [(5, _), (0, _), (1, _), (2, _), (3, _), (4, _)]) X dX9_moves_110 rfl (by decide) rfl ?_
              refine g_goto (pc := 113) X 75 dX9_moves_113 (by decide) ?_
              refine G.pick [1, 2, 3, 4, 5, 0] (lv' := [(0, _), (1, _), (2, _), (3, _), (4, _), (5, _)]) rfl ?_
              exact ih75 (k + 1) _ _ H2 (by omega) (by omega) (by omega) (mv_step hM hp hpl (by omega)) hO hNw hTk (Fr.trans hu4 (hfc.un (by omega)))
        refine G.pick [1, 2, 3, 4, 5, 0] (lv' := [(0, _), (1, _), (2, _), (3, _), (4, _), (5, _)]) rfl ?_
        have ek : (k : Int) = b - a + 1 := by omega
        rw [ek] at hT
        exact hL75 _ 0 _ _ H1 (Nat.lt_succ_self _) rfl (by omega) (mv_0 hp) hO hNw hTk (Fr.trans hu3 (hfg.un (by omega)))
      · skip
        refine g_aload_n (pc := 17) (pl := 0) X dX9_moves_17 rfl ?_
        refine g_getf (pc := 18) X zF_X9_moves_38 hO rfl dX9_moves_18 ?_
        refine g_iconst (pc := 21) X dX9_moves_21 ?_
        refine g_iload (pc := 22) (pl := 5) X dX9_moves_22 rfl ?_
        refine g_imul (pc := 24) X dX9_moves_24 ?_
        refine g_aload_n (pc := 25) (pl := 0) X dX9_moves_25 rfl ?_
        refine g_getf (pc := 26) X zF_X9_moves_7 hO rfl dX9_moves_26 ?_
        refine g_iconst (pc := 29) X dX9_moves_29 ?_
        refine g_iload_n (pc := 30) (pl := 1) X dX9_moves_30 rfl ?_
        refine g_iadd (pc := 31) X dX9_moves_31 ?_
        refine g_iload (pc := 32) (pl := 5) X dX9_moves_32 rfl ?_
        refine g_iadd (pc := 34) X dX9_moves_34 ?_
        refine g_iaload (pc := 35) X hNw (by omega) (by omega) (by omega) dX9_moves_35 ?_
        refine g_iastore (pc := 36) X hTk (by omega) (by omega) (by omega) (by omega) dX9_moves_36 (fun H1 hTkn hf1 => ?_)
        replace hO := hO.fr hf1 (by omega)
        replace hNw := hNw.fr hf1 (by omega)
        replace hTk := hTkn
        clear hTkn
        refine g_aload_n (pc := 37) (pl := 0) X dX9_moves_37 rfl ?_
        refine g_getf (pc := 38) X zF_X9_moves_38 hO rfl dX9_moves_38 ?_
        refine g_iconst (pc := 41) X dX9_moves_41 ?_
        refine g_iload (pc := 42) (pl := 5) X dX9_moves_42 rfl ?_
        refine g_imul (pc := 44) X dX9_moves_44 ?_
        refine g_iconst (pc := 45) X dX9_moves_45 ?_
        refine g_iadd (pc := 46) X dX9_moves_46 ?_
        refine g_aload_n (pc := 47) (pl := 0) X dX9_moves_47 rfl ?_
        refine g_getf (pc := 48) X zF_X9_moves_7 hO rfl dX9_moves_48 ?_
        refine g_bipush (pc := 51) X dX9_moves_51 (by decide +kernel) ?_
        refine g_iload_n (pc := 53) (pl := 1) X dX9_moves_53 rfl ?_
        refine g_iadd (pc := 54) X dX9_moves_54 ?_
        refine g_iload (pc := 55) (pl := 5) X dX9_moves_55 rfl ?_
        refine g_iadd (pc := 57) X dX9_moves_57 ?_
        refine g_iaload (pc := 58) X hNw (by omega) (by omega) (by omega) dX9_moves_58 ?_
        refine g_iastore (pc := 59) X hTk (by omega) (by omega) (by omega) (by omega) dX9_moves_59 (fun H2 hTkn hf2 => ?_)
        replace hO := hO.fr hf2 (by omega)
        replace hNw := hNw.fr hf2 (by omega)
        replace hTk := hTkn
        clear hTkn
        refine g_iinc (pc := 60) (pl := 5) (x := (k : Int)) (lv' := [(5, _), (0, _), (1, _), (2, _), (3, _), (4, _)]) X dX9_moves_60 rfl (by decide) rfl ?_
        refine g_goto (pc := 63) X 10 dX9_moves_63 (by decide) ?_
        refine G.pick [1, 2, 3, 4, 5, 0] (lv' := [(0, _), (1, _), (2, _), (3, _), (4, _), (5, _)]) rfl ?_
        exact ih10 (k + 1) _ _ H2 (by omega) (by omega) (by omega) (fun i i0 i1 => by by_cases c : i = (k : Int); (rw [c]; exact ⟨(if_neg (by omega)).trans (if_pos rfl), if_pos rfl⟩); (exact ⟨(if_neg (by omega)).trans ((if_neg (by omega)).trans (hT i i0 (by omega)).1), (if_neg (by omega)).trans ((if_neg (by omega)).trans (hT i i0 (by omega)).2)⟩)) hO hNw hTk (Fr.trans hu3 (Fr.trans (hf1.un (by omega)) (hf2.un (by omega))))
  refine G.pick [2, 3, 4, 5, 1, 0] (lv' := [(0, _), (1, _), (2, _), (3, _), (4, _), (5, _)]) rfl ?_
  exact hL10 _ 0 _ T H (Nat.lt_succ_self _) rfl (by omega) (fun i i0 i1 => by omega) hO hNw hTk (Fr.refl _ _)

abbrev rm_X9_move : Room := { frames := 4, cells := 0, slots := 0, locals := 89 }
theorem cs_X9_move_118 : zCV RX9 wsX9_move 118 9 yX9_mayMove wsX9_mayMove cX9_mayMove 5 (some .int) rm_X9_move rm_X9_mayMove 3 := ⟨_, _, gX9_move_X9_mayMove, rfl, ⟨by decide +kernel, by decide +kernel, by decide +kernel⟩, ⟨Nat.le_of_ble_eq_true rfl, Nat.le_of_ble_eq_true rfl⟩, rfl, rfl⟩
theorem cs_X9_move_57 : zCV RX9 wsX9_move 57 9 yX9_records wsX9_records cX9_records 2 none rm_X9_move rm_X9_records 0 := ⟨_, _, gX9_move_X9_records, rfl, ⟨by decide +kernel, by decide +kernel, by decide +kernel⟩, ⟨Nat.le_of_ble_eq_true rfl, Nat.le_of_ble_eq_true rfl⟩, rfl, rfl⟩
theorem cs_X9_move_122 : zCV RX9 wsX9_move 122 9 yX9_moves wsX9_moves cX9_moves 6 none rm_X9_move rm_X9_moves 3 := ⟨_, _, gX9_move_X9_moves, rfl, ⟨by decide +kernel, by decide +kernel, by decide +kernel⟩, ⟨Nat.le_of_ble_eq_true rfl, Nat.le_of_ble_eq_true rfl⟩, rfl, rfl⟩
theorem cs_X9_move_125 : zCV RX9 wsX9_move 125 9 yX9_torn wsX9_torn cX9_torn 3 (some .int) rm_X9_move rm_X9_torn 0 := ⟨_, _, gX9_move_X9_torn, rfl, ⟨by decide +kernel, by decide +kernel, by decide +kernel⟩, ⟨Nat.le_of_ble_eq_true rfl, Nat.le_of_ble_eq_true rfl⟩, rfl, rfl⟩
set_option maxRecDepth 100000 in
theorem c_X9_move (l : Launch) (D : zD) (base : Nat) (y : Nat) (kp pd at' od fi la pc : Int) (f : Int → Int) (st : Int → Int → Int) (T : Int → Int) (a b p : Int) (hq : base ≤ y) (hI : PInv f) (hkp : 0 ≤ kp ∧ kp ≤ 6) (ha : rg a) (hb : rg b) (hp : rg p) : Ct l yX9_move wsX9_move rm_X9_move D base [.ref y, .int (J a), .int (J b), .int (J p)] (fun H => MoO D y kp pd at' od fi la pc H ∧ NwAt D y f H ∧ PaAt D y kp st H ∧ Ia D (y + 10) 120 T H) (PI (fun H v H1 => mvR f a b p = v ∧ (∃ f2 : Int → Int, MEq (mvS f a b p) f2 ∧ NwAt D y f2 H1) ∧ MoE D y (hsN kp (mvR f a b p)) pd H1 ∧ PaAt D y (hsN kp (mvR f a b p)) (hsS kp (mvR f a b p) st f) H1 ∧ (∃ T2 : Int → Int, Ia D (y + 10) 120 T2 H1) ∧ Fr (Un y (y + 3) (y + 10) (y + 11)) 0 H H1)) := by
  refine Ct.of (own := RX9) (cc := cX9_move) (maxL := 5) (by decide +kernel) rfl (Nat.le_of_ble_eq_true rfl) rfl ?_
  intro K H X R hH hnm hP
  show G K 0 0 H 0 [(0, .ref y), (1, .int (J a)), (2, .int (J b)), (3, .int (J p))] []
  obtain ⟨hO, hNw, hPa, hTk⟩ := hP
  have hnum := hI.nums
  refine g_aload_n (pc := 0) (pl := 0) X dX9_move_0 rfl ?_
  refine g_iload_n (pc := 1) (pl := 1) X dX9_move_1 rfl ?_
  refine g_iload_n (pc := 2) (pl := 2) X dX9_move_2 rfl ?_
  refine g_iload_n (pc := 3) (pl := 3) X dX9_move_3 rfl ?_
  refine gVi (pc := 4) (n2 := 0) (k2 := 0) X cs_X9_move_118 (c_X9_mayMove (zl K) D base y kp pd at' od fi la pc f a b p hq hI ha hb hp) rfl hO (by omega) ⟨hO, hNw⟩ rfl ⟨Nat.le_of_ble_eq_true rfl, Nat.le_of_ble_eq_true rfl⟩ dX9_move_4 (Nat.le_of_ble_eq_true rfl) rfl rfl (fun v4 H1 hp4 hs4 => ?_)
  obtain ⟨rfl, rfl⟩ := hp4
  have hme : -2 ≤ mverr f a b p ∧ mverr f a b p ≤ 0 := by have := perr_bd f a b; unfold mverr; (repeat' split) <;> omega
  refine g_istore (pc := 7) (lv' := [(4, _), (0, _), (1, _), (2, _), (3, _)]) X dX9_move_7 (by decide) rfl ?_
  refine g_iload (pc := 9) (pl := 0) X dX9_move_9 rfl ?_
  refine g_if_eq (pc := 11) X 17 dX9_move_11 (by decide) (by omega) (fun c11 => ?_) (fun c11 => ?_)
  · skip
    refine g_aload_n (pc := 17) (pl := 1) X dX9_move_17 rfl ?_
    obtain ⟨ps, hPs, hst⟩ := id hPa
    refine gVv (pc := 18) (n2 := 0) (k2 := 0) X cs_X9_move_57 (c_X9_records (zl K) D base y kp pd at' od fi la pc f ps hq hkp) rfl hO (by omega) ⟨hO, hNw, hPs⟩ rfl ⟨Nat.le_of_ble_eq_true rfl, Nat.le_of_ble_eq_true rfl⟩ dX9_move_18 (Nat.le_of_ble_eq_true rfl) rfl rfl (fun H1 hp18 hs18 => ?_)
    obtain ⟨hOn, hNwn, ⟨ps2, hPs2, hr2⟩, hfr⟩ := hp18
    replace hTk := hTk.fr hfr (by omega)
    have hPan : PaAt D y (hpN kp) (hpS kp st f) H1 := ⟨ps2, hPs2, hpS_rec hkp hst hr2⟩
    clear hO hNw hPa hPs
    have hO := hOn
    have hNw := hNwn
    have hPa := hPan
    clear hOn hNwn hPan hPs2
    refine g_aload_n (pc := 21) (pl := 1) X dX9_move_21 rfl ?_
    refine g_iload_n (pc := 22) (pl := 2) X dX9_move_22 rfl ?_
    refine g_iload_n (pc := 23) (pl := 3) X dX9_move_23 rfl ?_
    refine g_iload_n (pc := 24) (pl := 4) X dX9_move_24 rfl ?_
    have hpz : ¬ perr f a b < 0 := by (have q := hme; have z : mverr f a b p = 0 := by omega); unfold mverr at z; split at z; (omega); (assumption)
    have hab := perr_ok hpz
    have hpl : 0 ≤ p ∧ p ≤ f 0 - (b - a + 1) := by (have z : mverr f a b p = 0 := by omega); unfold mverr at z; rw [if_neg hpz] at z; split at z <;> omega
    refine gVv (pc := 25) (n2 := 0) (k2 := 0) X cs_X9_move_122 (c_X9_moves (zl K) D base y (hpN kp) pd at' od fi la pc f T a b p hq (by omega) hpl) rfl hO (by omega) ⟨hO, hNw, hTk⟩ rfl ⟨Nat.le_of_ble_eq_true rfl, Nat.le_of_ble_eq_true rfl⟩ dX9_move_25 (Nat.le_of_ble_eq_true rfl) rfl rfl (fun H2 hp25 hs25 => ?_)
    obtain ⟨hOn, ⟨F, hMF, hNwn⟩, hTk2, hum⟩ := hp25
    obtain ⟨Hm, hm1, hm2⟩ := hum.part
    have hPan := (hPa.fr hm1 (by omega)).fr hm2 (by omega)
    clear hO hNw hPa hTk
    have hO := hOn
    have hNw := hNwn
    have hPa := hPan
    have hI2 := (hI.mv (by omega) hpl).meq hMF
    clear hOn hNwn hPan
    refine g_aload_n (pc := 28) (pl := 1) X dX9_move_28 rfl ?_
    refine gVi (pc := 29) (n2 := 0) (k2 := 0) X cs_X9_move_125 (c_X9_torn (zl K) D base y (hpN kp) pd at' od fi la pc F hq hI2) rfl hO (by omega) ⟨hO, hNw⟩ rfl ⟨Nat.le_of_ble_eq_true rfl, Nat.le_of_ble_eq_true rfl⟩ dX9_move_29 (Nat.le_of_ble_eq_true rfl) rfl rfl (fun v29 H3 hp29 hs29 => ?_)
    obtain ⟨hv, hE, hNwn, hft⟩ := hp29
    have hPa1 := hPa.fr hft (by omega)
    obtain ⟨T2, hT2⟩ := hTk2
    have hT3 := hT2.fr hft (by omega)
    subst hv
    refine g_iret (pc := 32) X R hH dX9_move_32 ?_
    have er : mvR f a b p = ptd F := (if_neg (by omega)).trans (mq_ptd hMF)
    have hpt : ¬ ptd F < 0 := by have := (cnt_bd (fun n => decide (1 < ntP F n)) (F 1).toNat).1; exact Int.not_lt.mpr this
    have eg : mvS f a b p = mvG f a b p := if_neg (by omega)
    rw [er, eg]
    rw [show hsN kp (ptd F) = hpN kp from if_neg (by omega), show hsS kp (ptd F) st f = hpS kp st f from if_neg (by omega)]
    exact ⟨rfl, ⟨F, hMF, hNwn⟩, hE, hPa1, ⟨_, hT3⟩, (Fr.trans (hfr.un (by omega)) (Fr.trans (hum.unw (by omega)) (hft.un (by omega))))⟩
  · skip
    refine g_iload (pc := 14) (pl := 0) X dX9_move_14 rfl ?_
    refine g_iret (pc := 16) X R hH dX9_move_16 ?_
    have er : mvR f a b p = mverr f a b p := if_pos (by omega)
    rw [er]
    rw [show hsN kp (mverr f a b p) = kp from if_pos (by omega), show hsS kp (mverr f a b p) st f = st from if_pos (by omega)]
    exact ⟨rfl, ⟨f, by rw [show mvS f a b p = f from if_pos (by omega)]; exact MEq.refl _, hNw⟩, ⟨_, _, _, _, _, hO⟩, hPa, ⟨_, hTk⟩, Fr.refl _ _⟩

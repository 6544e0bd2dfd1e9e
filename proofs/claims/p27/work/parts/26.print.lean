/-! printing: the first line with room, notes one after the other -/
def flin (U : Int → Int) (room : Int) : Nat → Int → Int
  | 0, a => a
  | k + 1, a => if U a < room then a else flin U room k (a + 1)
theorem flin_spec (U : Int → Int) (room : Int) : ∀ (k : Nat) (a : Int), a ≤ flin U room k a ∧ flin U room k a ≤ a + k ∧ (∀ j : Int, a ≤ j → j < flin U room k a → ¬ U j < room) ∧ (flin U room k a = a + k ∨ U (flin U room k a) < room)
  | 0, a => ⟨Int.le_refl _, by simp only [flin]; omega, fun j h0 h1 => by simp only [flin] at h1; omega, Or.inl (by simp only [flin]; omega)⟩
  | k + 1, a => by
    simp only [flin]
    by_cases c : U a < room
    · rw [if_pos c]
      exact ⟨Int.le_refl _, by omega, fun j h0 h1 => by omega, Or.inr c⟩
    · rw [if_neg c]
      obtain ⟨h1, h2, h3, h4⟩ := flin_spec U room k (a + 1)
      refine ⟨by omega, by omega, fun j b0 b1 => ?_, by rcases h4 with h | h; (left; omega); (right; exact h)⟩
      by_cases c2 : j = a
      · rw [c2]; exact c
      · exact h3 j (by omega) b1
theorem flin_eq {U : Int → Int} {room : Int} {k : Nat} {a y : Int} (h0 : a ≤ y) (h1 : ∀ j : Int, a ≤ j → j < y → ¬ U j < room) (h2 : U y < room) (hk : y < a + k) : flin U room k a = y := by
  obtain ⟨b1, b2, b3, b4⟩ := flin_spec U room k a
  rcases Int.lt_trichotomy (flin U room k a) y with q | q | q
  · rcases b4 with h | h
    · omega
    · exact absurd h (h1 _ b1 q)
  · exact q
  · exact absurd h2 (b3 y h0 q)
/-- lines used, the line of each note, its leader -/
abbrev PS : Type := (Int → Int) × (Int → Int) × (Int → Int)
def prN (g : Int → Int) (room p n : Int) (S : PS) : PS :=
  if ntF g n = p then (up S.1 (flin S.1 room 76 (p / g 3)) (S.1 (flin S.1 room 76 (p / g 3)) + 1), up S.2.1 n (flin S.1 room 76 (p / g 3)), up S.2.2 n (flin S.1 room 76 (p / g 3) - p / g 3)) else S
def prP (g : Int → Int) (room p : Int) : Nat → PS → PS
  | 0, S => S
  | n + 1, S => prN g room p n (prP g room p n S)
def prA (g : Int → Int) (room : Int) : Nat → PS
  | 0 => (fun _ => 0, fun _ => -6, fun _ => -6)
  | p + 1 => prP g room p (g 1).toNat (prA g room p)
def sumI (f : Int → Int) : Nat → Int
  | 0 => 0
  | k + 1 => sumI f k + f (k : Int)
theorem sumI_up (f : Int → Int) (z v : Int) : ∀ k : Nat, sumI (up f z v) k = sumI f k + if 0 ≤ z ∧ z < k then v - f z else 0
  | 0 => by simp only [sumI]; rw [if_neg (by omega)]; rfl
  | k + 1 => by
    simp only [sumI]
    rw [sumI_up f z v k]
    unfold up
    have hk1 : ((k + 1 : Nat) : Int) = (k : Int) + 1 := by omega
    by_cases c : (k : Int) = z
    · have y1 : (if 0 ≤ z ∧ z < (k : Int) then v - f z else 0) = 0 := if_neg (by omega)
      have y2 : (if 0 ≤ z ∧ z < ((k + 1 : Nat) : Int) then v - f z else 0) = v - f z := if_pos (by omega)
      have y3 : f (k : Int) = f z := by rw [c]
      rw [if_pos c, y1, y2, y3]; omega
    · rw [if_neg c]
      have y1 : (if 0 ≤ z ∧ z < ((k + 1 : Nat) : Int) then v - f z else 0) = if 0 ≤ z ∧ z < (k : Int) then v - f z else 0 := by split <;> split <;> omega
      rw [y1]; omega
theorem sumI_ge {f : Int → Int} (h0 : ∀ j, 0 ≤ f j) {a b : Int} (ha : 0 ≤ a) (h1 : ∀ j : Int, a ≤ j → j < b → 1 ≤ f j) : ∀ k : Nat, (if b ≤ k then b else k) - a ≤ sumI f k ∧ 0 ≤ sumI f k
  | 0 => by simp only [sumI]; split <;> omega
  | k + 1 => by
    have ih := sumI_ge h0 ha h1 k
    have hk := h0 (k : Int)
    simp only [sumI]
    refine ⟨?_, by omega⟩
    by_cases c : a ≤ (k : Int) ∧ (k : Int) < b
    · have := h1 k c.1 c.2
      have ih1 := ih.1
      split at ih1 <;> split <;> omega
    · have ih1 := ih.1
      split at ih1 <;> split <;> omega
theorem cnt_set {P P' : Int → Bool} {z : Int} (h : ∀ i : Int, ¬ i = z → P' i = P i) (hz : P z = false) (hz2 : P' z = true) : ∀ {k : Nat}, cnt P' k = cnt P k + if 0 ≤ z ∧ z < k then 1 else 0
  | 0 => by simp only [cnt]; rw [if_neg (by omega)]; rfl
  | k + 1 => by
    simp only [cnt]
    rw [cnt_set h hz hz2]
    have hk1 : ((k + 1 : Nat) : Int) = (k : Int) + 1 := by omega
    by_cases c : (k : Int) = z
    · have y1 : (if 0 ≤ z ∧ z < (k : Int) then (1 : Int) else 0) = 0 := if_neg (by omega)
      have y2 : (if 0 ≤ z ∧ z < ((k + 1 : Nat) : Int) then (1 : Int) else 0) = 1 := if_pos (by omega)
      have y3 : P (k : Int) = false := by rw [c]; exact hz
      have y4 : P' (k : Int) = true := by rw [c]; exact hz2
      rw [y1, y2, y3, y4]; simp
    · rw [h _ c]
      have y1 : (if 0 ≤ z ∧ z < ((k + 1 : Nat) : Int) then (1 : Int) else 0) = if 0 ≤ z ∧ z < (k : Int) then (1 : Int) else 0 := by split <;> split <;> omega
      rw [y1]; omega
/-- what holds while notes are printed: those whose first place is ahead of p, or is p and whose number is less than n, are done -/
def PrOk (g : Int → Int) (p n : Int) (S : PS) : Prop :=
  (∀ j, 0 ≤ S.1 j ∧ S.1 j ≤ sumI S.1 76 + 0 ∨ (S.1 j = 0)) ∧ (∀ j : Int, 0 ≤ S.1 j) ∧ sumI S.1 76 = cnt (fun i => decide (¬ S.2.1 i = -6)) 16 ∧
  (∀ i : Int, ¬ S.2.1 i = -6 → 0 ≤ i ∧ i < g 1 ∧ (ntF g i < p ∨ ntF g i = p ∧ i < n) ∧ 0 ≤ S.2.1 i ∧ S.2.1 i ≤ 75 ∧ 0 ≤ S.2.2 i ∧ S.2.2 i ≤ 75) ∧
  (∀ i : Int, S.2.1 i = -6 → S.2.2 i = -6)
theorem PrOk.start (g : Int → Int) : PrOk g 0 0 (fun _ => 0, fun _ => -6, fun _ => -6) := by
  refine ⟨fun j => Or.inr rfl, fun j => Int.le_refl 0, ?_, fun i h => absurd rfl h, fun i h => rfl⟩
  have e1 : ∀ k : Nat, sumI (fun _ => 0) k = 0 := fun k => by induction k with
    | zero => rfl
    | succ k ih => simp only [sumI]; rw [ih]; rfl
  have e2 : ∀ k : Nat, cnt (fun i : Int => decide (¬ (fun _ : Int => (-6 : Int)) i = -6)) k = 0 := fun k => by induction k with
    | zero => rfl
    | succ k ih => rw [cnt_no (by simp)]; exact ih
  exact (e1 76).trans (e2 16).symm
theorem PrOk.line {g : Int → Int} {p n : Int} {S : PS} (h : PrOk g p n S) (hI : PInv g) (hp : 0 ≤ p ∧ p < g 0) (hn : 0 ≤ n ∧ n < g 1) (hf : ntF g n = p) {room : Int} (hr : 1 ≤ room) :
    S.2.1 n = -6 ∧ p / g 3 ≤ flin S.1 room 76 (p / g 3) ∧ flin S.1 room 76 (p / g 3) ≤ p / g 3 + 15 ∧ 0 ≤ p / g 3 ∧ p / g 3 ≤ 59 ∧ S.1 (flin S.1 room 76 (p / g 3)) < room ∧ 0 ≤ S.1 (flin S.1 room 76 (p / g 3)) := by
  obtain ⟨-, h1, h2, h3, h4⟩ := h
  have hnum := hI.nums
  have hL : S.2.1 n = -6 := Decidable.byContradiction fun z => by have := h3 n z; omega
  have hd0 : 0 ≤ p / g 3 := Int.ediv_nonneg hp.1 (by omega)
  have hd1 : p / g 3 ≤ p := Int.ediv_le_self _ hp.1
  obtain ⟨b1, b2, b3, b4⟩ := flin_spec S.1 room 76 (p / g 3)
  have hc : cnt (fun i => decide (¬ S.2.1 i = -6)) 16 ≤ 15 := by
    have hs := cnt_set (P := fun i => decide (¬ S.2.1 i = -6)) (P' := fun i => if i = n then true else decide (¬ S.2.1 i = -6)) (z := n) (fun i hi => by simp only [if_neg hi]) (by simp [hL]) (by simp) (k := 16)
    have hb := (cnt_bd (fun i => if i = n then true else decide (¬ S.2.1 i = -6)) 16).2
    rw [if_pos (by omega)] at hs
    omega
  have hg := (sumI_ge h1 hd0 (b := flin S.1 room 76 (p / g 3)) (fun j a b => by have := b3 j a b; omega) 76).1
  have hlt : flin S.1 room 76 (p / g 3) ≤ p / g 3 + 15 := by split at hg <;> omega
  refine ⟨hL, b1, hlt, hd0, by omega, by rcases b4 with b | b; omega; exact b, h1 _⟩
theorem PrOk.step {g : Int → Int} {p n : Int} {S : PS} (h : PrOk g p n S) (hI : PInv g) (hp : 0 ≤ p ∧ p < g 0) (hn : 0 ≤ n ∧ n < g 1) {room : Int} (hr : 1 ≤ room) : PrOk g p (n + 1) (prN g room p n S) := by
  unfold prN
  by_cases c : ntF g n = p
  · rw [if_pos c]
    obtain ⟨k1, k2, k3, k4, k5, k6, k7⟩ := h.line hI hp hn c hr
    obtain ⟨h0, h1, h2, h3, h4⟩ := h
    generalize flin S.1 room 76 (p / g 3) = l at *
    have hnum := hI.nums
    have hs := sumI_up S.1 l (S.1 l + 1) 76
    rw [if_pos (by omega)] at hs
    refine ⟨fun j => Or.inl ⟨?_, ?_⟩, fun j => ?_, ?_, fun i hi => ?_, fun i hi => ?_⟩
    · show 0 ≤ up S.1 l (S.1 l + 1) j
      unfold up; split
      · omega
      · exact h1 j
    · show up S.1 l (S.1 l + 1) j ≤ sumI (up S.1 l (S.1 l + 1)) 76 + 0
      rw [hs]
      have hpos := (sumI_ge h1 (Int.le_refl 0) (b := 0) (fun j a b => by omega) 76).2
      unfold up
      split
      · rcases h0 l with z | z <;> omega
      · rcases h0 j with z | z <;> omega
    · show 0 ≤ up S.1 l (S.1 l + 1) j
      unfold up; split
      · omega
      · exact h1 j
    · show sumI (up S.1 l (S.1 l + 1)) 76 = cnt (fun i => decide (¬ up S.2.1 n l i = -6)) 16
      rw [hs, h2, cnt_set (P := fun i => decide (¬ S.2.1 i = -6)) (P' := fun i => decide (¬ up S.2.1 n l i = -6)) (z := n) (fun i hi => by simp only [up, if_neg hi]) (by simp [k1]) (by simp only [up, if_pos]; exact decide_eq_true (by omega)) (k := 16), if_pos (by omega)]
      omega
    · dsimp only at hi ⊢
      by_cases c2 : i = n
      · rw [show up S.2.1 n l i = l from if_pos c2, show up S.2.2 n (l - p / g 3) i = l - p / g 3 from if_pos c2, c2]
        exact ⟨hn.1, hn.2, Or.inr ⟨c, by omega⟩, by omega, by omega, by omega, by omega⟩
      · rw [show up S.2.1 n l i = S.2.1 i from if_neg c2] at hi ⊢
        rw [show up S.2.2 n (l - p / g 3) i = S.2.2 i from if_neg c2]
        have := h3 i hi
        exact ⟨this.1, this.2.1, by omega, this.2.2.2⟩
    · dsimp only at hi ⊢
      by_cases c2 : i = n
      · rw [show up S.2.1 n l i = l from if_pos c2] at hi; omega
      · rw [show up S.2.1 n l i = S.2.1 i from if_neg c2] at hi
        rw [show up S.2.2 n (l - p / g 3) i = S.2.2 i from if_neg c2]
        exact h4 i hi
  · rw [if_neg c]
    obtain ⟨h0, h1, h2, h3, h4⟩ := h
    exact ⟨h0, h1, h2, fun i hi => by have := h3 i hi; exact ⟨this.1, this.2.1, by omega, this.2.2.2⟩, h4⟩
theorem PrOk.next {g : Int → Int} {p n : Int} {S : PS} (h : PrOk g p n S) (hn : n = g 1) : PrOk g (p + 1) 0 S := by
  obtain ⟨h0, h1, h2, h3, h4⟩ := h
  exact ⟨h0, h1, h2, fun i hi => by have := h3 i hi; exact ⟨this.1, this.2.1, by omega, this.2.2.2⟩, h4⟩
theorem PrOk.used {g : Int → Int} {p n : Int} {S : PS} (h : PrOk g p n S) (j : Int) : 0 ≤ S.1 j ∧ S.1 j ≤ 16 := by
  obtain ⟨h0, h1, h2, h3, h4⟩ := h
  have hb := (cnt_bd (fun i => decide (¬ S.2.1 i = -6)) 16).2
  have hpos := (sumI_ge h1 (Int.le_refl 0) (b := 0) (fun j a b => by omega) 76).2
  exact ⟨h1 j, by rcases h0 j with z | z <;> omega⟩
/-- of all notes the last line, the leaders' sum, the longest leader -/
def mxL (L : Int → Int) : Nat → Int
  | 0 => -6
  | k + 1 => if mxL L k < L (k : Int) then L (k : Int) else mxL L k
def ldr (L E : Int → Int) (i : Int) : Int := if L i = -6 then 0 else E i
def mxE (L E : Int → Int) : Nat → Int
  | 0 => 0
  | k + 1 => if mxE L E k < ldr L E k then ldr L E k else mxE L E k
theorem mxL_s (L : Int → Int) (k : Nat) : mxL L (k + 1) = if mxL L k < L (k : Int) then L (k : Int) else mxL L k := rfl
theorem mxE_s (L E : Int → Int) (k : Nat) : mxE L E (k + 1) = if mxE L E k < ldr L E k then ldr L E k else mxE L E k := rfl
theorem mxL_up {L : Int → Int} {n l : Int} (h : L n = -6) (hl : 0 ≤ l) : ∀ k : Nat, -6 ≤ mxL L k ∧ mxL (up L n l) k = if 0 ≤ n ∧ n < k then (if mxL L k < l then l else mxL L k) else mxL L k
  | 0 => ⟨Int.le_refl _, by rw [if_neg (by omega)]; rfl⟩
  | k + 1 => by
    obtain ⟨h0, h1⟩ := mxL_up h hl k
    rw [mxL_s, mxL_s, h1]
    have hk1 : ((k + 1 : Nat) : Int) = (k : Int) + 1 := by omega
    refine ⟨by split <;> omega, ?_⟩
    by_cases c : (k : Int) = n
    · have y0 : up L n l (k : Int) = l := if_pos c
      have y1 : L (k : Int) = -6 := by rw [c]; exact h
      rw [y0, y1]
      (repeat' split) <;> omega
    · have y0 : up L n l (k : Int) = L (k : Int) := if_neg c
      rw [y0]
      (repeat' split) <;> omega
theorem mxE_up {L E : Int → Int} {n l e : Int} (h : L n = -6) (hl : 0 ≤ l) (he : 0 ≤ e) : ∀ k : Nat, 0 ≤ mxE L E k ∧ mxE (up L n l) (up E n e) k = if 0 ≤ n ∧ n < k then (if mxE L E k < e then e else mxE L E k) else mxE L E k
  | 0 => ⟨Int.le_refl _, by rw [if_neg (by omega)]; rfl⟩
  | k + 1 => by
    obtain ⟨h0, h1⟩ := mxE_up (E := E) h hl he k
    rw [mxE_s, mxE_s, h1]
    have hk1 : ((k + 1 : Nat) : Int) = (k : Int) + 1 := by omega
    refine ⟨by split <;> omega, ?_⟩
    by_cases c : (k : Int) = n
    · have e1 : ldr (up L n l) (up E n e) k = e := by
        have y1 : up L n l (k : Int) = l := if_pos c
        have y2 : up E n e (k : Int) = e := if_pos c
        unfold ldr; rw [y1, y2]; exact if_neg (by omega)
      have e2 : ldr L E k = 0 := by
        have y1 : L (k : Int) = -6 := by rw [c]; exact h
        unfold ldr; exact if_pos y1
      rw [e1, e2]
      (repeat' split) <;> omega
    · have e1 : ldr (up L n l) (up E n e) k = ldr L E k := by
        have y1 : up L n l (k : Int) = L k := if_neg c
        have y2 : up E n e (k : Int) = E k := if_neg c
        unfold ldr; rw [y1, y2]
      rw [e1]
      (repeat' split) <;> omega
theorem ldr_sum {L E : Int → Int} {n l e : Int} (h : L n = -6) (hl : 0 ≤ l) (k : Nat) : sumI (ldr (up L n l) (up E n e)) k = sumI (ldr L E) k + if 0 ≤ n ∧ n < k then e else 0 := by
  have e1 : ldr (up L n l) (up E n e) = up (ldr L E) n e := by
    funext i
    unfold ldr up
    by_cases c : i = n
    · rw [if_pos c, if_pos c, if_pos c, if_neg (by omega)]
    · rw [if_neg c, if_neg c, if_neg c]
  rw [e1, sumI_up]
  have e2 : ldr L E n = 0 := by unfold ldr; rw [if_pos h]
  rw [e2, Int.sub_zero]


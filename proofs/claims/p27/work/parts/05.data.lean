theorem zb0 {P : Prop} [Decidable P] (h : (if P then (1 : Int) else 0) = 0) : ¬ P := fun q => by rw [if_pos q] at h; omega
theorem zb1 {P : Prop} [Decidable P] (h : ¬ (if P then (1 : Int) else 0) = 0) : P := by
  by_cases q : P
  · exact q
  · rw [if_neg q] at h; exact absurd rfl h
theorem zbr (P : Prop) [Decidable P] : rg (if P then (1 : Int) else 0) := by split <;> exact ⟨by decide, by decide⟩
theorem zbo (P : Prop) [Decidable P] : (if P then (1 : Int) else 0) = 0 ∨ (if P then (1 : Int) else 0) = 1 := by split <;> simp
/-- a row: its object, its ints, how many of them count -/
def RowAt (D : zD) (r N : Nat) (n : Int) (f : Int → Int) (H : Heap) : Prop :=
  Ob D r 6 [.ref (r + 1), .int (J n)] H ∧ (∃ g : Int → Int, Ia D (r + 1) N g H ∧ ∀ i : Int, 0 ≤ i → i < n → g i = f i) ∧ 0 ≤ n ∧ n ≤ N ∧ N ≤ 100
theorem RowAt.fr {D : zD} {r N a b d : Nat} {n : Int} {f : Int → Int} {H H' : Heap} (h : RowAt D r N n f H) (fr : Fr (Iv a b) d H H') (e : r + 2 ≤ a ∨ b ≤ r) : RowAt D r N n f H' := by
  obtain ⟨h1, ⟨g, h2, h3⟩, h4⟩ := h
  exact ⟨h1.fr fr (by omega), ⟨g, h2.fr fr (by omega), h3⟩, h4⟩
theorem RowAt.congr {D : zD} {r N : Nat} {n : Int} {f f' : Int → Int} {H : Heap} (h : RowAt D r N n f H) (e : ∀ i : Int, 0 ≤ i → i < n → f i = f' i) : RowAt D r N n f' H := by
  obtain ⟨h1, ⟨g, h2, h3⟩, h4⟩ := h
  exact ⟨h1, ⟨g, h2, fun i a b => (h3 i a b).trans (e i a b)⟩, h4⟩
theorem RowAt.lt {D : zD} {r N : Nat} {n : Int} {f : Int → Int} {H : Heap} (h : RowAt D r N n f H) : r + 1 < H.size := by
  obtain ⟨h1, ⟨g, h2, h3⟩, h4⟩ := h
  exact h2.lt
theorem RowAt.bd {D : zD} {r N : Nat} {n : Int} {f : Int → Int} {H : Heap} (h : RowAt D r N n f H) : 0 ≤ n ∧ n ≤ N ∧ N ≤ 100 := h.2.2
/-- what is asked of a place that may be none -/
def itm (n : Int) (f : Int → Int) (i : Int) : Int := if 0 ≤ i ∧ i < n then f i else -1
def ins (f : Int → Int) (i v : Int) : Int → Int := fun j => if j < i then f j else if j = i then v else f (j - 1)
def del (f : Int → Int) (a b : Int) : Int → Int := fun j => if j < a then f j else f (j + (b - a + 1))
def rev (f : Int → Int) (a b : Int) : Int → Int := fun j => if a ≤ j ∧ j ≤ b then f (a + b - j) else f j
def swp (f : Int → Int) (a b lo hi : Int) : Int → Int := fun j => if (a ≤ j ∧ j < lo) ∨ (hi < j ∧ j ≤ b) then f (a + b - j) else f j
def exch (f : Int → Int) (a m b : Int) : Int → Int := fun j => if a ≤ j ∧ j ≤ b then (if j ≤ a + (b - m) then f (m + (j - a)) else f (j - (b - m + 1))) else f j
/-- some are taken out and put in again from a place on -/
def mvf (f : Int → Int) (a b p : Int) : Int → Int := fun j => if p ≤ j ∧ j ≤ p + (b - a) then f (a + (j - p)) else (if (if j < p then j else j - (b - a + 1)) < a then f (if j < p then j else j - (b - a + 1)) else f ((if j < p then j else j - (b - a + 1)) + (b - a + 1)))
theorem swp_0 (f : Int → Int) (a b : Int) : swp f a b a b = f := by
  funext j; simp only [swp]
  (repeat' split) <;> first | rfl | (exfalso; omega) | (congr 1; omega)
theorem swp_end {f : Int → Int} {a b lo hi : Int} (h : lo + hi = a + b) (h1 : hi ≤ lo) (h2 : a ≤ lo) (h3 : lo ≤ hi + 1) : swp f a b lo hi = rev f a b := by
  funext j; simp only [swp, rev]
  (repeat' split) <;> first | rfl | (exfalso; omega) | (congr 1; omega)
theorem exch_rev (f : Int → Int) {a m b : Int} (h1 : a ≤ m) (h2 : m ≤ b + 1) : rev (rev (rev f a (m - 1)) m b) a b = exch f a m b := by
  funext j; simp only [rev, exch]
  (repeat' split) <;> first | rfl | (exfalso; omega) | (congr 1; omega)
theorem mvf_lo (f : Int → Int) {a b p : Int} (h : p < a) (hab : a ≤ b) : exch f p a b = mvf f a b p := by
  funext j; simp only [exch, mvf]
  (repeat' split) <;> first | rfl | (exfalso; omega) | (congr 1; omega)
theorem mvf_hi (f : Int → Int) {a b p : Int} (h : a ≤ p) (hab : a ≤ b) : exch f a (b + 1) (p + b - a) = mvf f a b p := by
  funext j; simp only [exch, mvf]
  (repeat' split) <;> first | rfl | (exfalso; omega) | (congr 1; omega)
theorem swp_step {f g : Int → Int} {a b lo hi n : Int} (hg : ∀ i : Int, 0 ≤ i → i < n → g i = swp f a b lo hi i) (h : lo + hi = a + b) (h1 : a ≤ lo) (h2 : lo < hi) (h3 : 0 ≤ a) (h4 : b < n) : ∀ j : Int, 0 ≤ j → j < n → up (up g lo (g hi)) hi (g lo) j = swp f a b (lo + 1) (hi + (-1)) j := by
  intro j h0 h5
  have e1 := hg lo (by omega) (by omega)
  have e2 := hg hi (by omega) (by omega)
  have e3 := hg j h0 h5
  simp only [swp] at e1 e2 e3
  rw [if_neg (by omega)] at e1 e2
  simp only [up, swp]
  by_cases c1 : j = hi
  · rw [if_pos c1, e1, if_pos (by omega)]; congr 1; omega
  · rw [if_neg c1]
    by_cases c2 : j = lo
    · rw [if_pos c2, e2, if_pos (by omega)]; congr 1; omega
    · rw [if_neg c2, e3]
      by_cases c3 : (a ≤ j ∧ j < lo) ∨ (hi < j ∧ j ≤ b)
      · rw [if_pos c3, if_pos (by omega)]
      · rw [if_neg c3, if_neg (by omega)]


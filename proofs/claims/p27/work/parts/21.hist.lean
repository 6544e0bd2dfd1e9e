/-! the history: its pages are apart, behind lo; the first m hold the states st -/
def PgsOk (D : zD) (lo : Nat) (N : Int) (sa : Int → Option Nat) (H : Heap) : Prop :=
  (∀ (i : Int) (a : Nat), 0 ≤ i → i < N → sa i = some a → lo ≤ a ∧ a + 121 ≤ H.size ∧ ∃ gg, PageAt D a gg H) ∧
  ∀ (i j : Int) (a b : Nat), 0 ≤ i → i < N → 0 ≤ j → j < N → ¬ i = j → sa i = some a → sa j = some b → a + 121 ≤ b ∨ b + 121 ≤ a
theorem PgsOk.fr {D : zD} {lo x y d : Nat} {N : Int} {sa : Int → Option Nat} {H H' : Heap} (h : PgsOk D lo N sa H) (fr : Fr (Iv x y) d H H') (e : y ≤ lo) : PgsOk D lo N sa H' := by
  refine ⟨fun i a h0 h1 h2 => ?_, h.2⟩
  obtain ⟨k1, k2, gg, k3⟩ := h.1 i a h0 h1 h2
  exact ⟨k1, by have := fr.1; omega, gg, k3.fr fr (by omega)⟩
def HsAt (D : zD) (h lo : Nat) (sa : Int → Option Nat) (m : Int) (st : Int → Int → Int) (H : Heap) : Prop :=
  Ob D h 0 [.ref (h + 1), .int (J m)] H ∧ Ra D (h + 1) 3 7 sa H ∧ PgsOk D lo 7 sa H ∧ (∀ i : Int, 0 ≤ i → i < m → ∃ a, sa i = some a ∧ PageAt D a (st i) H) ∧ 0 ≤ m ∧ m ≤ 6
theorem HsAt.fr {D : zD} {h lo x y d : Nat} {sa : Int → Option Nat} {m : Int} {st : Int → Int → Int} {H H' : Heap} (hh : HsAt D h lo sa m st H) (fr : Fr (Iv x y) d H H') (e : y ≤ lo ∧ (h + 2 ≤ x ∨ y ≤ h)) : HsAt D h lo sa m st H' := by
  obtain ⟨h1, h2, h3, h4, h5, h6⟩ := hh
  refine ⟨h1.fr fr (by omega), h2.fr fr (by omega), h3.fr fr e.1, fun i a b => ?_, h5, h6⟩
  obtain ⟨q, k1, k2⟩ := h4 i a b
  have := h3.1 i q a (by omega) k1
  exact ⟨q, k1, k2.fr fr (by omega)⟩
/-- one of the pages is written -/
theorem PgsOk.one {D : zD} {lo q d : Nat} {N : Int} {sa : Int → Option Nat} {H H' : Heap} {k : Int} {g : Int → Int} (h : PgsOk D lo N sa H) (hk : 0 ≤ k ∧ k < N) (hq : sa k = some q) (fr : Fr (Iv q (q + 121)) d H H') (hp : PageAt D q g H') : PgsOk D lo N sa H' := by
  refine ⟨fun i a h0 h1 h2 => ?_, h.2⟩
  obtain ⟨k1, k2, gg, k3⟩ := h.1 i a h0 h1 h2
  by_cases c : i = k
  · rw [c, hq] at h2
    cases h2
    exact ⟨k1, by have := fr.1; omega, g, hp⟩
  · exact ⟨k1, by have := fr.1; omega, gg, k3.fr fr (by have := h.2 i k a q h0 h1 hk.1 hk.2 c h2 hq; omega)⟩
/-- a page that is new comes to a place that was free -/
theorem PgsOk.add {D : zD} {lo d : Nat} {N : Int} {sa : Int → Option Nat} {H H' : Heap} {k : Int} {g : Int → Int} {x y : Nat} (h : PgsOk D lo N sa H) (hk : 0 ≤ k ∧ k < N) (fr : Fr (Iv x y) d H H') (e : y ≤ lo) (hlo : lo ≤ H.size) (hs : H.size + 121 ≤ H'.size) (hp : PageAt D H.size g H') : PgsOk D lo N (up sa k (some H.size)) H' := by
  have h' := h.fr fr e
  refine ⟨fun i a h0 h1 h2 => ?_, fun i j a b i0 i1 j0 j1 hne h2 h3 => ?_⟩
  · by_cases c : i = k
    · rw [show up sa k (some H.size) i = some H.size from if_pos c] at h2
      cases h2
      exact ⟨hlo, hs, g, hp⟩
    · rw [show up sa k (some H.size) i = sa i from if_neg c] at h2
      exact h'.1 i a h0 h1 h2
  · by_cases c : i = k
    · rw [show up sa k (some H.size) i = some H.size from if_pos c] at h2
      cases h2
      rw [show up sa k (some H.size) j = sa j from if_neg (by omega)] at h3
      have := (h.1 j b j0 j1 h3).2.1
      omega
    · rw [show up sa k (some H.size) i = sa i from if_neg c] at h2
      by_cases c2 : j = k
      · rw [show up sa k (some H.size) j = some H.size from if_pos c2] at h3
        cases h3
        have := (h.1 i a i0 i1 h2).2.1
        omega
      · rw [show up sa k (some H.size) j = sa j from if_neg c2] at h3
        exact h.2 i j a b i0 i1 j0 j1 hne h2 h3
/-- the oldest one goes behind the others -/
def rotS (sa : Int → Option Nat) : Int → Option Nat := fun i => if i < 6 then sa (i + 1) else if i = 6 then sa 0 else sa i
theorem PgsOk.rot {D : zD} {lo : Nat} {sa : Int → Option Nat} {H : Heap} (h : PgsOk D lo 7 sa H) : PgsOk D lo 7 (rotS sa) H := by
  have e : ∀ i : Int, 0 ≤ i → i < 7 → ∃ k : Int, 0 ≤ k ∧ k < 7 ∧ rotS sa i = sa k ∧ (i < 6 → k = i + 1) ∧ (i = 6 → k = 0) := fun i h0 h1 => by
    unfold rotS
    by_cases c : i < 6
    · rw [if_pos c]; exact ⟨i + 1, by omega, by omega, rfl, fun _ => rfl, fun z => by omega⟩
    · rw [if_neg c, if_pos (by omega)]; exact ⟨0, by omega, by omega, rfl, fun z => by omega, fun _ => rfl⟩
  refine ⟨fun i a h0 h1 h2 => ?_, fun i j a b i0 i1 j0 j1 hne h2 h3 => ?_⟩
  · obtain ⟨k, k0, k1, k2, -⟩ := e i h0 h1
    rw [k2] at h2
    exact h.1 k a k0 k1 h2
  · obtain ⟨k, k0, k1, k2, k3, k4⟩ := e i i0 i1
    obtain ⟨l, l0, l1, l2, l3, l4⟩ := e j j0 j1
    rw [k2] at h2
    rw [l2] at h3
    refine h.2 k l a b k0 k1 l0 l1 (fun z => ?_) h2 h3
    rcases Int.lt_or_le i 6 with c | c <;> rcases Int.lt_or_le j 6 with c2 | c2
    · have := k3 c; have := l3 c2; omega
    · have := k3 c; have := l4 (by omega); omega
    · have := k4 (by omega); have := l3 c2; omega
    · omega
/-- a state is recorded -/
def hpN (m : Int) : Int := if m < 6 then m + 1 else m
def hpS (m : Int) (st : Int → Int → Int) (g : Int → Int) : Int → Int → Int := if m < 6 then (fun i => if i = m then g else st i) else (fun i => if i = 5 then g else st (i + 1))
theorem Ra.some_ref {x : Option Nat} (h : ¬ x = none) : ∃ a, x = some a := by
  cases x with
  | none => exact absurd rfl h
  | some a => exact ⟨a, rfl⟩
theorem Fr.newer {F : Nat → Prop} {a b d d' : Nat} {H H1 H2 : Heap} (h : Fr F d H H1) (h' : Fr (Iv a b) d' H1 H2) (e : H.size ≤ a) : Fr F (d + d') H H2 :=
  ⟨by rw [h'.1, h.1, Nat.add_assoc], fun q h1 h2 => (h'.2 q (by rw [h.1]; omega) (Iv.off (Or.inl (by omega)))).trans (h.2 q h1 h2)⟩


/-! what is printed: lines are counted, none is overfull -/
theorem cnt_stop {P : Int → Bool} {k m : Nat} (h : k ≤ m) (hn : ∀ i : Int, k ≤ i → i < m → ¬ P i = true) : cnt P m = cnt P k := by
  obtain ⟨w, rfl⟩ : ∃ w : Nat, m = k + w := ⟨m - k, by omega⟩
  rw [cnt_add, cnt_none (P := fun i => P ((k : Int) + i)) (fun i i0 i1 => hn _ (by omega) (by omega))]
  omega
theorem cnt_or {P Q R : Int → Bool} : ∀ {n : Nat}, (∀ i : Int, 0 ≤ i → i < n → (R i = true ↔ (P i = true ∨ Q i = true)) ∧ ¬ (P i = true ∧ Q i = true)) → cnt R n = cnt P n + cnt Q n
  | 0, _ => rfl
  | n + 1, h => by
    have ih := cnt_or (n := n) (fun i h0 h1 => h i h0 (by omega))
    obtain ⟨h1, h2⟩ := h n (by omega) (by omega)
    by_cases c : P (n : Int) = true
    · rw [cnt_yes (h1.mpr (Or.inl c)), cnt_yes c, cnt_no (fun d => h2 ⟨c, d⟩), ih]; omega
    · by_cases d : Q (n : Int) = true
      · rw [cnt_yes (h1.mpr (Or.inr d)), cnt_no c, cnt_yes d, ih]; omega
      · rw [cnt_no (fun e => (h1.mp e).elim c d), cnt_no c, cnt_no d, ih]
def PrX (g : Int → Int) (room p n : Int) (S : PS) : Prop :=
  (∀ j : Int, 0 ≤ j → S.1 j ≤ room ∧ S.1 j = cnt (fun i => decide (S.2.1 i = j)) 16) ∧ (∀ i : Int, 0 ≤ i → i < g 1 → 0 ≤ ntF g i → (ntF g i < p ∨ ntF g i = p ∧ i < n) → ¬ S.2.1 i = -6) ∧ ∀ i : Int, ¬ S.2.1 i = -6 → 0 ≤ ntF g i
theorem PrX.start (g : Int → Int) {room : Int} (hr : 1 ≤ room) : PrX g room 0 0 (fun _ => 0, fun _ => -6, fun _ => -6) :=
  ⟨fun j j0 => ⟨by show (0 : Int) ≤ room; omega, (cnt_none (fun i i0 i1 q => by have e : (-6 : Int) = j := of_decide_eq_true q; omega)).symm⟩, fun i i0 i1 f0 f1 => by omega, fun i h => absurd rfl h⟩
theorem PrX.step {g : Int → Int} {room p n : Int} {S : PS} (h : PrX g room p n S) (hO : PrOk g p n S) (hI : PInv g) (hp : 0 ≤ p ∧ p < g 0) (hn : 0 ≤ n ∧ n < g 1) (hr : 1 ≤ room) : PrX g room p (n + 1) (prN g room p n S) := by
  unfold prN
  by_cases c : ntF g n = p
  · rw [if_pos c]
    obtain ⟨k1, k2, k3, k4, k5, k6, k7⟩ := hO.line hI hp hn c hr
    obtain ⟨h0, h1, h2⟩ := h
    have hnu := hI.nums
    clear hO
    generalize flin S.1 room 76 (p / g 3) = l at *
    refine ⟨fun j j0 => ?_, fun i i0 i1 f0 f1 => ?_, fun i hi => ?_⟩
    · show up S.1 l (S.1 l + 1) j ≤ room ∧ up S.1 l (S.1 l + 1) j = cnt (fun i => decide (up S.2.1 n l i = j)) 16
      by_cases d : j = l
      · rw [show up S.1 l (S.1 l + 1) j = S.1 l + 1 from if_pos d, d]
        have hs := cnt_set (P := fun i => decide (S.2.1 i = l)) (P' := fun i => decide (up S.2.1 n l i = l)) (z := n) (fun i hi => by simp only [up, if_neg hi]) (decide_eq_false (by omega)) (decide_eq_true (if_pos rfl)) (k := 16)
        rw [if_pos (by omega)] at hs
        have := (h0 l (by omega)).2
        exact ⟨by omega, by omega⟩
      · rw [show up S.1 l (S.1 l + 1) j = S.1 j from if_neg d]
        refine ⟨(h0 j j0).1, (h0 j j0).2.trans (cnt_congr (fun i i0 i1 => ?_))⟩
        by_cases e : i = n
        · rw [show up S.2.1 n l i = l from if_pos e, e, k1, decide_eq_false (by omega), decide_eq_false (fun z => d z.symm)]
        · rw [show up S.2.1 n l i = S.2.1 i from if_neg e]
    · show ¬ up S.2.1 n l i = -6
      by_cases e : i = n
      · rw [show up S.2.1 n l i = l from if_pos e]; omega
      · rw [show up S.2.1 n l i = S.2.1 i from if_neg e]
        exact h1 i i0 i1 f0 (by omega)
    · replace hi : ¬ up S.2.1 n l i = -6 := hi
      by_cases e : i = n
      · rw [e, c]; exact hp.1
      · rw [show up S.2.1 n l i = S.2.1 i from if_neg e] at hi
        exact h2 i hi
  · rw [if_neg c]
    refine ⟨h.1, fun i i0 i1 f0 f1 => h.2.1 i i0 i1 f0 ?_, h.2.2⟩
    rcases f1 with q | q
    · exact Or.inl q
    · refine Or.inr ⟨q.1, ?_⟩
      by_cases e : i = n
      · rw [e] at q; exact absurd q.1 c
      · omega
theorem prP_x {g : Int → Int} {room : Int} (hI : PInv g) (hr : 1 ≤ room) {p : Nat} (hp : (p : Int) < g 0) {S : PS} (hO : PrOk g (p : Int) 0 S) (h : PrX g room (p : Int) 0 S) : ∀ k : Nat, (k : Int) ≤ g 1 → PrX g room (p : Int) (k : Int) (prP g room (p : Int) k S)
  | 0, _ => h
  | k + 1, hk => by
    have ih := prP_x hI hr hp hO h k (by omega)
    have := ih.step (prP_ok hI hr hp hO k (by omega)) hI ⟨by omega, hp⟩ ⟨by omega, by omega⟩ hr
    rw [show ((k + 1 : Nat) : Int) = (k : Int) + 1 by omega]
    exact this
theorem prA_x {g : Int → Int} {room : Int} (hI : PInv g) (hr : 1 ≤ room) : ∀ p : Nat, (p : Int) ≤ g 0 → PrX g room (p : Int) 0 (prA g room p)
  | 0, _ => PrX.start g hr
  | p + 1, hp => by
    have hn := hI.nums
    have ih := prA_x hI hr p (by omega)
    have h2 := prP_x hI hr (by omega) (prA_ok hI hr p (by omega)) ih (g 1).toNat (by omega)
    rw [show ((p + 1 : Nat) : Int) = (p : Int) + 1 by omega]
    exact ⟨h2.1, fun i i0 i1 f0 f1 => h2.2.1 i i0 i1 f0 (by omega), h2.2.2⟩
section
variable {g : Int → Int} {room : Int}
theorem prS_ok (hI : PInv g) (hr : 1 ≤ room) : PrOk g (g 0) 0 (prS g room) := by
  have hn := hI.nums
  have h := prA_ok hI hr (g 0).toNat (by omega)
  rw [show (((g 0).toNat : Nat) : Int) = g 0 by omega] at h
  exact h
theorem prS_x (hI : PInv g) (hr : 1 ≤ room) : PrX g room (g 0) 0 (prS g room) := by
  have hn := hI.nums
  have h := prA_x hI hr (g 0).toNat (by omega)
  rw [show (((g 0).toNat : Nat) : Int) = g 0 by omega] at h
  exact h
/-- who is printed -/
theorem pr_who (hI : PInv g) (hr : 1 ≤ room) {i : Int} (h0 : 0 ≤ i) (h1 : i < g 1) : (prS g room).2.1 i = -6 ↔ ntL g i = 0 := by
  have hb := nt_bd g i
  have hn := hI.nums
  have hx := prS_x hI hr
  constructor
  · intro e
    refine Decidable.byContradiction (fun z => ?_)
    have h2 := hb.2.2.2.2 (by omega)
    exact hx.2.1 i h0 h1 h2.2.1 (Or.inl (by omega)) e
  · intro e
    refine Decidable.byContradiction (fun z => ?_)
    have h2 := hx.2.2 i z
    have h3 := (hb.2.2.2.1 e).1
    omega
/-- lines and leaders are small -/
theorem pr_bd (hI : PInv g) (hr : 1 ≤ room) (i : Int) : ((prS g room).2.1 i = -6 ∧ (prS g room).2.2 i = -6) ∨ (0 ≤ (prS g room).2.1 i ∧ (prS g room).2.1 i ≤ 75 ∧ 0 ≤ (prS g room).2.2 i ∧ (prS g room).2.2 i ≤ 75 ∧ 0 ≤ i ∧ i < g 1) := by
  have h := prS_ok hI hr
  by_cases c : (prS g room).2.1 i = -6
  · exact Or.inl ⟨c, h.2.2.2.2 i c⟩
  · have := h.2.2.2.1 i c
    exact Or.inr ⟨this.2.2.2.1, this.2.2.2.2.1, this.2.2.2.2.2.1, this.2.2.2.2.2.2, this.1, this.2.1⟩
/-- no line has more notes than there is room -/
theorem pr_room (hI : PInv g) (hr : 1 ≤ room) {j : Int} (j0 : 0 ≤ j) : cnt (fun i => decide ((prS g room).2.1 i = j)) (g 1).toNat ≤ room := by
  have hn := hI.nums
  have hx := (prS_x hI hr).1 j j0
  have e := cnt_stop (P := fun i => decide ((prS g room).2.1 i = j)) (k := (g 1).toNat) (m := 16) (by omega) (fun i i0 i1 q => by
    have q2 : (prS g room).2.1 i = j := of_decide_eq_true q
    have := pr_bd hI hr i
    omega)
  omega
theorem mxL_ge (L : Int → Int) : ∀ (k : Nat) (i : Int), 0 ≤ i → i < k → L i ≤ mxL L k
  | 0, i, h0, h1 => by omega
  | k + 1, i, h0, h1 => by
    rw [mxL_s]
    by_cases e : i = k
    · rw [e]; split <;> omega
    · have := mxL_ge L k i h0 (by omega)
      split <;> omega
theorem mxL_bd {L : Int → Int} {b : Int} (hb : -6 ≤ b) (h : ∀ i : Int, L i ≤ b) : ∀ k : Nat, -6 ≤ mxL L k ∧ mxL L k ≤ b
  | 0 => ⟨Int.le_refl _, hb⟩
  | k + 1 => by
    have ih := mxL_bd hb h k
    have := h (k : Int)
    rw [mxL_s]
    split <;> omega
theorem ll_bd (hI : PInv g) (hr : 1 ≤ room) : -6 ≤ llR g room ∧ llR g room ≤ 75 := mxL_bd (by omega) (fun i => by have := pr_bd hI hr i; omega) _
theorem ll_ge (hI : PInv g) (hr : 1 ≤ room) {i : Int} (h0 : 0 ≤ i) (h1 : i < g 1) : (prS g room).2.1 i ≤ llR g room := mxL_ge _ _ i h0 (by have := hI.nums; omega)
theorem ldr_bd (hI : PInv g) (hr : 1 ≤ room) (i : Int) : 0 ≤ ldr (prS g room).2.1 (prS g room).2.2 i ∧ ldr (prS g room).2.1 (prS g room).2.2 i ≤ 75 := by
  have := pr_bd hI hr i
  unfold ldr
  split <;> omega
theorem sumI_bd {f : Int → Int} {b : Int} (h : ∀ i, 0 ≤ f i ∧ f i ≤ b) : ∀ k : Nat, 0 ≤ sumI f k ∧ sumI f k ≤ b * k
  | 0 => ⟨Int.le_refl 0, by show (0 : Int) ≤ b * ((0 : Nat) : Int); simp⟩
  | k + 1 => by
    have ih := sumI_bd h k
    have hk := h (k : Int)
    have e : b * ((k + 1 : Nat) : Int) = b * (k : Int) + b := by rw [show ((k + 1 : Nat) : Int) = (k : Int) + 1 by omega, Int.mul_add, Int.mul_one]
    rw [e]
    simp only [sumI]
    omega
theorem la_bd (hI : PInv g) (hr : 1 ≤ room) (k : Nat) (hk : k ≤ 16) : 0 ≤ sumI (ldr (prS g room).2.1 (prS g room).2.2) k ∧ sumI (ldr (prS g room).2.1 (prS g room).2.2) k ≤ 1200 := by
  have := sumI_bd (b := 75) (ldr_bd hI hr) k
  omega
/-- there is a leader just if one is the longest -/
theorem ld_some {L E : Int → Int} (h : ∀ i, 0 ≤ ldr L E i) : ∀ k : Nat, 0 ≤ sumI (ldr L E) k ∧ 0 ≤ mxE L E k ∧ (0 < sumI (ldr L E) k ↔ 0 < mxE L E k)
  | 0 => ⟨Int.le_refl 0, Int.le_refl 0, by show (0 : Int) < 0 ↔ (0 : Int) < 0; omega⟩
  | k + 1 => by
    obtain ⟨i1, i2, i3⟩ := ld_some h k
    have hk := h (k : Int)
    rw [mxE_s]
    simp only [sumI]
    split <;> omega
theorem la_lo (hI : PInv g) (hr : 1 ≤ room) : 0 < laR g room ↔ 0 < loR g room := (ld_some (fun i => (ldr_bd hI hr i).1) (g 1).toNat).2.2
theorem mxE_ge (L E : Int → Int) : ∀ (k : Nat) (i : Int), 0 ≤ i → i < k → ldr L E i ≤ mxE L E k
  | 0, i, h0, h1 => by omega
  | k + 1, i, h0, h1 => by
    rw [mxE_s]
    by_cases e : i = k
    · rw [e]; split <;> omega
    · have := mxE_ge L E k i h0 (by omega)
      split <;> omega
def NoLd (S : PS) : Prop := ∀ i : Int, S.2.2 i ≤ 0
theorem NoLd.of (hI : PInv g) (hr : 1 ≤ room) (h : loR g room ≤ 0) : NoLd (prS g room) := by
  intro i
  have hb := pr_bd hI hr i
  have hn := hI.nums
  rcases hb with q | q
  · omega
  · have h2 : ldr (prS g room).2.1 (prS g room).2.2 i ≤ loR g room := mxE_ge _ _ (g 1).toNat i q.2.2.2.2.1 (by omega)
    have h3 : ldr (prS g room).2.1 (prS g room).2.2 i = (prS g room).2.2 i := if_neg (by omega)
    omega
theorem NoLd.lo (h : NoLd (prS g room)) : loR g room ≤ 0 := by
  have h2 : ∀ i, ldr (prS g room).2.1 (prS g room).2.2 i ≤ 0 := fun i => by
    have := h i
    unfold ldr
    split <;> omega
  exact (mxE_bd (Int.le_refl 0) h2 _).2
theorem NoLd.back {p n : Int} {S : PS} (hO : PrOk g p n S) (hI : PInv g) (hp : 0 ≤ p ∧ p < g 0) (hn : 0 ≤ n ∧ n < g 1) (hr : 1 ≤ room) (h : NoLd (prN g room p n S)) {r2 : Int} (h2 : room ≤ r2) : NoLd S ∧ prN g r2 p n S = prN g room p n S := by
  by_cases c : ntF g n = p
  · obtain ⟨k1, k2, k3, k4, k5, k6, k7⟩ := hO.line hI hp hn c hr
    have e1 : prN g room p n S = (up S.1 (flin S.1 room 76 (p / g 3)) (S.1 (flin S.1 room 76 (p / g 3)) + 1), up S.2.1 n (flin S.1 room 76 (p / g 3)), up S.2.2 n (flin S.1 room 76 (p / g 3) - p / g 3)) := if_pos c
    have e2 : prN g r2 p n S = (up S.1 (flin S.1 r2 76 (p / g 3)) (S.1 (flin S.1 r2 76 (p / g 3)) + 1), up S.2.1 n (flin S.1 r2 76 (p / g 3)), up S.2.2 n (flin S.1 r2 76 (p / g 3) - p / g 3)) := if_pos c
    rw [e1] at h
    have hl : flin S.1 room 76 (p / g 3) - p / g 3 ≤ 0 := by
      have : up S.2.2 n (flin S.1 room 76 (p / g 3) - p / g 3) n ≤ 0 := h n
      rwa [show up S.2.2 n (flin S.1 room 76 (p / g 3) - p / g 3) n = flin S.1 room 76 (p / g 3) - p / g 3 from if_pos rfl] at this
    have hl2 : flin S.1 room 76 (p / g 3) = p / g 3 := by omega
    have hl3 : flin S.1 r2 76 (p / g 3) = p / g 3 := flin_eq (Int.le_refl _) (fun j j0 j1 => by omega) (by rw [hl2] at k6; omega) (by omega)
    refine ⟨fun i => ?_, by rw [e1, e2, hl2, hl3]⟩
    by_cases e : i = n
    · rw [e, hO.2.2.2.2 n k1]; omega
    · have : up S.2.2 n (flin S.1 room 76 (p / g 3) - p / g 3) i ≤ 0 := h i
      rwa [show up S.2.2 n (flin S.1 room 76 (p / g 3) - p / g 3) i = S.2.2 i from if_neg e] at this
  · have e1 : prN g room p n S = S := if_neg c
    have e2 : prN g r2 p n S = S := if_neg c
    rw [e1] at h ⊢
    exact ⟨h, e2⟩
theorem NoLd.rows (hI : PInv g) (hr : 1 ≤ room) {r2 : Int} (h2 : room ≤ r2) {p : Nat} (hp : (p : Int) < g 0) {S : PS} (hO : PrOk g (p : Int) 0 S) : ∀ k : Nat, (k : Int) ≤ g 1 → NoLd (prP g room (p : Int) k S) → NoLd S ∧ prP g r2 (p : Int) k S = prP g room (p : Int) k S
  | 0, _, h => ⟨h, rfl⟩
  | k + 1, hk, h => by
    obtain ⟨q1, q2⟩ := NoLd.back (prP_ok hI hr hp hO k (by omega)) hI ⟨by omega, hp⟩ ⟨by omega, by omega⟩ hr (r2 := r2) h h2
    obtain ⟨i1, i2⟩ := NoLd.rows hI hr h2 hp hO k (by omega) q1
    refine ⟨i1, ?_⟩
    show prN g r2 (p : Int) k (prP g r2 (p : Int) k S) = prN g room (p : Int) k (prP g room (p : Int) k S)
    rw [i2, q2]
theorem NoLd.all (hI : PInv g) (hr : 1 ≤ room) {r2 : Int} (h2 : room ≤ r2) : ∀ p : Nat, (p : Int) ≤ g 0 → NoLd (prA g room p) → prA g r2 p = prA g room p
  | 0, _, _ => rfl
  | p + 1, hp, h => by
    have hn := hI.nums
    obtain ⟨q1, q2⟩ := NoLd.rows hI hr h2 (p := p) (by omega) (prA_ok hI hr p (by omega)) (g 1).toNat (by omega) h
    have ih := NoLd.all hI hr h2 p (by omega) q1
    show prP g r2 (p : Int) (g 1).toNat (prA g r2 p) = prP g room (p : Int) (g 1).toNat (prA g room p)
    rw [ih, q2]
theorem lo_mono (hI : PInv g) (hr : 1 ≤ room) {r2 : Int} (h2 : room ≤ r2) (h : loR g room ≤ 0) : loR g r2 ≤ 0 := by
  have hn := hI.nums
  have h3 := NoLd.of hI hr h
  have h4 : prS g r2 = prS g room := NoLd.all hI hr h2 (g 0).toNat (by omega) h3
  refine NoLd.lo ?_
  rw [h4]; exact h3
theorem lrm_spec (g : Int → Int) (e : Int) : ∀ (k : Nat) (r : Int), lrm g e k r = -6 ∨ (r ≤ lrm g e k r ∧ lrm g e k r < r + k ∧ loR g (lrm g e k r) ≤ e ∧ ∀ q : Int, r ≤ q → q < lrm g e k r → ¬ loR g q ≤ e)
  | 0, r => Or.inl rfl
  | k + 1, r => by
    by_cases c : loR g r ≤ e
    · have e1 : lrm g e (k + 1) r = r := if_pos c
      rw [e1]
      exact Or.inr ⟨Int.le_refl _, by omega, c, fun q q0 q1 => by omega⟩
    · have e1 : lrm g e (k + 1) r = lrm g e k (r + 1) := if_neg c
      rw [e1]
      rcases lrm_spec g e k (r + 1) with h | ⟨h1, h2, h3, h4⟩
      · exact Or.inl h
      · refine Or.inr ⟨by omega, by omega, h3, fun q q0 q1 => ?_⟩
        by_cases d : q = r
        · rw [d]; exact c
        · exact h4 q (by omega) q1
/-- the least room without leaders, and those that there are -/
theorem lr_said (hI : PInv g) : lrR g 0 = -6 ∨ (1 ≤ lrR g 0 ∧ lrR g 0 ≤ 9 ∧ (g 4 < lrR g 0 ↔ 0 < laR g (g 4))) := by
  have hn := hI.nums
  have e : lrR g 0 = lrm g 0 9 1 := if_neg (by omega)
  rw [e]
  rcases lrm_spec g 0 9 1 with h | ⟨h1, h2, h3, h4⟩
  · exact Or.inl h
  · refine Or.inr ⟨h1, by omega, ?_⟩
    rw [la_lo hI (by omega)]
    constructor
    · intro h5
      have := h4 (g 4) (by omega) h5
      omega
    · intro h5
      refine Decidable.byContradiction (fun h6 => ?_)
      have := lo_mono hI h1 (r2 := g 4) (by omega) h3
      omega
end
/-- all notes stand, or are orphans, or replies -/
theorem stt_all (g : Int → Int) (n : Int) : stt g n = 0 ∨ stt g n = 1 ∨ stt g n = 2 := by
  unfold stt
  (repeat' split) <;> omega
theorem cst_all (g : Int → Int) : ∀ k : Nat, cnt (fun n => decide (stt g n = 0)) k + cnt (fun n => decide (stt g n = 1)) k + cnt (fun n => decide (stt g n = 2)) k = k
  | 0 => rfl
  | k + 1 => by
    have ih := cst_all g k
    have h0 : ∀ s : Int, stt g (k : Int) = s → cnt (fun n => decide (stt g n = s)) (k + 1) = cnt (fun n => decide (stt g n = s)) k + 1 := fun s h => cnt_yes (decide_eq_true h)
    have h1 : ∀ s : Int, ¬ stt g (k : Int) = s → cnt (fun n => decide (stt g n = s)) (k + 1) = cnt (fun n => decide (stt g n = s)) k := fun s h => cnt_no (fun q => h (of_decide_eq_true q))
    rcases stt_all g k with q | q | q
    · rw [h0 0 q, h1 1 (by omega), h1 2 (by omega)]; omega
    · rw [h1 0 (by omega), h0 1 q, h1 2 (by omega)]; omega
    · rw [h1 0 (by omega), h1 1 (by omega), h0 2 q]; omega
theorem ntL_rep {g : Int → Int} (hI : PInv g) {n : Int} (h : ¬ tgt g n = -6) : ntL g n = 0 ∧ ntP g n = 0 := by
  have hb := nt_bd g n
  have hnu := hI.nums
  have e : ntL g n = 0 := by
    rw [ntL_cnt]
    refine cnt_none (fun i i0 i1 q => ?_)
    obtain ⟨-, -, -, -, -, -, -, -, -, -, h11, h12, h13⟩ := hI
    exact h ((h12 i i0 (by omega)).2.2 n (of_decide_eq_true q)).2
  exact ⟨e, by omega⟩
theorem stt_0 {g : Int → Int} (hI : PInv g) (n : Int) : stt g n = 0 ↔ 0 < ntL g n := by
  unfold stt
  by_cases c : ¬ tgt g n = -6
  · rw [if_pos c, (ntL_rep hI c).1]; omega
  · rw [if_neg c]; split <;> omega
/-- how many are printed -/
theorem pr_many {g : Int → Int} (hI : PInv g) : cnt (fun i => decide (0 ≤ (prS g (g 4)).2.1 i)) (g 1).toNat = g 1 - cst g 1 - cst g 2 := by
  have hn := hI.nums
  have h1 := cst_all g (g 1).toNat
  have h2 : cnt (fun i => decide (0 ≤ (prS g (g 4)).2.1 i)) (g 1).toNat = cnt (fun n => decide (stt g n = 0)) (g 1).toNat := cnt_congr (fun i i0 i1 => by
    rw [decide_eq_decide]
    have q1 := pr_who hI (room := g 4) (by omega) i0 (by omega)
    have q2 := stt_0 hI i
    have q3 := pr_bd hI (room := g 4) (by omega) i
    have q4 := nt_bd g i
    omega)
  have e1 : cst g 1 = cnt (fun n => decide (stt g n = 1)) (g 1).toNat := rfl
  have e2 : cst g 2 = cnt (fun n => decide (stt g n = 2)) (g 1).toNat := rfl
  omega

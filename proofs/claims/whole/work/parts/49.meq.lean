/-! states that are the same as far as it counts -/
section
variable {g g' : Int → Int}
theorem PInv.meq (h : PInv g) (e : MEq g g') : PInv g' := by
  have hn := h.nums
  have e0 := e.1 0 (by omega) (by omega)
  have e1 := e.1 1 (by omega) (by omega)
  have e2 := e.1 2 (by omega) (by omega)
  have e3 := e.1 3 (by omega) (by omega)
  have e4 := e.1 4 (by omega) (by omega)
  obtain ⟨a1, a2, a3, a4, a5, a6, a7, a8, a9, a10, a11, a12, a13⟩ := h
  refine ⟨by omega, by omega, by omega, by omega, by omega, by omega, by omega, by omega, by omega, by omega, fun i i0 i1 => ?_, fun i i0 i1 => ?_, fun i i0 i1 => ?_⟩
  · rw [← (e.2.1 i i0 (by omega)).1]; exact a11 i i0 (by omega)
  · rw [← (e.2.1 i i0 (by omega)).2]
    obtain ⟨k1, k2, k3⟩ := a12 i i0 (by omega)
    exact ⟨k1, k2, fun n hn => by
      have z := k3 n hn
      have w := (e.2.2 n hn.1 z.1).1
      exact ⟨by omega, by omega⟩⟩
  · have w := e.2.2 i i0 (by omega)
    rcases a13 i i0 (by omega) with ⟨c1, c2, c3, c4, c5, c6, c7, c8, c9, c10⟩ | q
    · obtain ⟨w1, w2, w3, w4, w5, w6⟩ := w.2 c1
      have w0 := w.1
      exact Or.inl ⟨by omega, by omega, by omega, by omega, by omega, by omega, by omega, fun j j0 j1 => by rw [← w4 j j0 (by omega)]; exact c8 j j0 (by omega), fun j j0 j1 => by rw [← w5 j j0 (by omega)]; exact c9 j j0 (by omega), fun j j0 j1 => by rw [← w6 j j0 (by omega)]; exact c10 j j0 (by omega)⟩
    · exact Or.inr (by have := w.1; omega)
theorem mq_of (h : PInv g) (e : ∀ j : Int, 0 ≤ j → j < 1405 → g' j = g j) : MEq g g' := by
  have hn := h.nums
  refine ⟨fun j j0 j1 => (e j j0 (by omega)).symm, fun i i0 i1 => ⟨(e _ (by omega) (by omega)).symm, (e _ (by omega) (by omega)).symm⟩, fun i i0 i1 => ⟨(e _ (by omega) (by omega)).symm, fun z => ?_⟩⟩
  have k := h.nt i0 i1 z
  exact ⟨(e _ (by omega) (by omega)).symm, (e _ (by omega) (by omega)).symm, (e _ (by omega) (by omega)).symm, fun j j0 j1 => (e _ (by omega) (by omega)).symm, fun j j0 j1 => (e _ (by omega) (by omega)).symm, fun j j0 j1 => (e _ (by omega) (by omega)).symm⟩
theorem mq_scan (e : MEq g g') (i : Int) : scan (ownb (OW g) i) (g 0).toNat = scan (ownb (OW g') i) (g' 0).toNat := by
  have e0 := e.1 0 (by omega) (by omega)
  rw [← e0]
  refine scan_congr (fun k k0 k1 => ?_)
  show decide (isin (g (65 + k)) i) = decide (isin (g' (65 + k)) i)
  rw [(e.2.1 k k0 (by omega)).2]
theorem mq_nt (e : MEq g g') (i : Int) : ntP g i = ntP g' i ∧ ntL g i = ntL g' i ∧ ntF g i = ntF g' i ∧ ntE g i = ntE g' i := by
  have h := mq_scan e i
  unfold ntP ntL ntF ntE scF scM scP scL scE
  rw [h]
  exact ⟨rfl, rfl, rfl, rfl⟩
theorem mq_stt (e : MEq g g') {i : Int} (h : 0 ≤ i ∧ i < g 1) : stt g i = stt g' i := by
  have h1 := (e.2.2 i h.1 h.2).1
  have h2 := (mq_nt e i).2.1
  show (if ¬ g (125 + 80 * i) = -6 then (2 : Int) else if 0 < ntL g i then 0 else 1) = (if ¬ g' (125 + 80 * i) = -6 then (2 : Int) else if 0 < ntL g' i then 0 else 1)
  rw [h1, h2]
theorem mq_cst (e : MEq g g') (s : Int) : cst g s = cst g' s := by
  have e1 := e.1 1 (by omega) (by omega)
  show cnt _ _ = cnt _ _
  rw [← e1]
  exact cnt_congr (fun i i0 i1 => by rw [mq_stt e (i := i) ⟨i0, by omega⟩])
theorem mq_ptd (e : MEq g g') : ptd g = ptd g' := by
  have e1 := e.1 1 (by omega) (by omega)
  show cnt _ _ = cnt _ _
  rw [← e1]
  exact cnt_congr (fun i i0 i1 => by rw [(mq_nt e i).1])
theorem mq_perr (e : MEq g g') (a b : Int) : perr g a b = perr g' a b := by
  have e0 := e.1 0 (by omega) (by omega)
  unfold perr
  rw [e0]
theorem NEq.up125 {G G' : Int → Int} {i : Int} (h : NEq g g' i) (i0 : 0 ≤ i) (e : ∀ j : Int, 125 ≤ j → G j = g j) (e' : ∀ j : Int, 125 ≤ j → G' j = g' j) : NEq G G' i :=
  ((NEq.of (g := G) (g' := g) i0 e).trans h).trans (NEq.of (g := G') (g' := g') i0 e').symm
theorem mq_cm (e : MEq g g') {p c o : Int} (hp : 0 ≤ p ∧ p ≤ g 0 ∧ g 0 < 60) : MEq (cmG g p c o) (cmG g' p c o) := by
  have e0 := e.1 0 (by omega) (by omega)
  have e1 := e.1 1 (by omega) (by omega)
  obtain ⟨a0, a1, a2, a3, a4⟩ := cmG_at (g := g) (p := p) (c := c) (o := o)
  obtain ⟨b0, b1, b2, b3, b4⟩ := cmG_at (g := g') (p := p) (c := c) (o := o)
  refine ⟨fun j j0 j1 => ?_, fun i i0 i1 => ?_, fun i i0 i1 => ?_⟩
  · by_cases z : j = 0
    · rw [z, a0, b0, e0]
    · rw [a1 j (by omega) j1, b1 j (by omega) j1]; exact e.1 j j0 j1
  · rw [a0] at i1
    rw [a2 i i0 (by omega), b2 i i0 (by omega), a3 i i0 (by omega), b3 i i0 (by omega)]
    unfold ins
    by_cases z : i < p
    · rw [if_pos z, if_pos z, if_pos z, if_pos z]; exact e.2.1 i i0 (by omega)
    · rw [if_neg z, if_neg z, if_neg z, if_neg z]
      by_cases z2 : i = p
      · rw [if_pos z2, if_pos z2, if_pos z2, if_pos z2]; exact ⟨rfl, rfl⟩
      · rw [if_neg z2, if_neg z2, if_neg z2, if_neg z2]; exact e.2.1 (i - 1) (by omega) (by omega)
  · rw [a1 1 (by omega) (by omega)] at i1
    exact (e.2.2 i i0 i1).up125 i0 a4 b4
theorem mq_dl (e : MEq g g') {a b : Int} (hp : 0 ≤ a ∧ a ≤ b ∧ b < g 0 ∧ g 0 ≤ 60) : MEq (dlG g a b) (dlG g' a b) := by
  have e0 := e.1 0 (by omega) (by omega)
  obtain ⟨a0, a1, a2, a3, a4⟩ := dlG_at (g := g) (a := a) (b := b)
  obtain ⟨b0, b1, b2, b3, b4⟩ := dlG_at (g := g') (a := a) (b := b)
  refine ⟨fun j j0 j1 => ?_, fun i i0 i1 => ?_, fun i i0 i1 => ?_⟩
  · by_cases z : j = 0
    · rw [z, a0, b0, e0]
    · rw [a1 j (by omega) j1, b1 j (by omega) j1]; exact e.1 j j0 j1
  · rw [a0] at i1
    rw [a2 i i0 (by omega), b2 i i0 (by omega), a3 i i0 (by omega), b3 i i0 (by omega)]
    unfold del
    by_cases z : i < a
    · rw [if_pos z, if_pos z, if_pos z, if_pos z]; exact e.2.1 i i0 (by omega)
    · rw [if_neg z, if_neg z, if_neg z, if_neg z]; exact e.2.1 (i + (b - a + 1)) (by omega) (by omega)
  · rw [a1 1 (by omega) (by omega)] at i1
    exact (e.2.2 i i0 i1).up125 i0 a4 b4
theorem mvf_congr {f f' : Int → Int} {a b p n i : Int} (h : 0 ≤ a ∧ a ≤ b ∧ b < n) (hp : 0 ≤ p ∧ p ≤ n - (b - a + 1)) (h0 : 0 ≤ i) (h1 : i < n) (e : ∀ j : Int, 0 ≤ j → j < n → f j = f' j) : mvf f a b p i = mvf f' a b p i := by
  unfold mvf
  (repeat' split) <;> exact e _ (by omega) (by omega)
theorem mq_mv (e : MEq g g') {a b p : Int} (hp : 0 ≤ a ∧ a ≤ b ∧ b < g 0 ∧ g 0 ≤ 60) (hpl : 0 ≤ p ∧ p ≤ g 0 - (b - a + 1)) : MEq (mvG g a b p) (mvG g' a b p) := by
  obtain ⟨a1, a2, a3, a4⟩ := mvG_at (g := g) (a := a) (b := b) (p := p)
  obtain ⟨b1, b2, b3, b4⟩ := mvG_at (g := g') (a := a) (b := b) (p := p)
  refine ⟨fun j j0 j1 => ?_, fun i i0 i1 => ?_, fun i i0 i1 => ?_⟩
  · rw [a1 j j0 j1, b1 j j0 j1]; exact e.1 j j0 j1
  · rw [a1 0 (by omega) (by omega)] at i1
    rw [a2 i i0 (by omega), b2 i i0 (by omega), a3 i i0 (by omega), b3 i i0 (by omega)]
    exact ⟨mvf_congr (by omega) hpl i0 i1 (fun j j0 j1 => (e.2.1 j j0 j1).1), mvf_congr (by omega) hpl i0 i1 (fun j j0 j1 => (e.2.1 j j0 j1).2)⟩
  · rw [a1 1 (by omega) (by omega)] at i1
    exact (e.2.2 i i0 i1).up125 i0 a4 b4
/-- the lengths of the notes that stand -/
def Lns (g : Int → Int) (k : Int) : Prop := g (125 + 80 * k) = -6 → 0 ≤ g (126 + 80 * k) ∧ g (126 + 80 * k) ≤ 60 ∧ 0 ≤ g (187 + 80 * k) ∧ g (187 + 80 * k) ≤ 8 ∧ 0 ≤ g (196 + 80 * k) ∧ g (196 + 80 * k) ≤ 8
theorem PInv.lns' (h : PInv g) {k : Int} (h0 : 0 ≤ k) (h1 : k < g 1) : Lns g k := fun z => by
  have q := h.nt h0 h1 z
  omega
theorem mq_an {i a b : Int} (h0 : ∀ j : Int, 0 ≤ j → j < 5 → g j = g' j) (h1 : ∀ k : Int, 0 ≤ k → k < g 0 → g (5 + k) = g' (5 + k) ∧ g (65 + k) = g' (65 + k)) (h2 : ∀ k : Int, 0 ≤ k → k < g 1 → ¬ k = i → NEq g g' k) (hn : 0 ≤ g 0 ∧ g 0 ≤ 60 ∧ 0 ≤ g 1 ∧ g 1 ≤ 16 ∧ 0 ≤ g 2 ∧ g 2 ≤ 8) (hl : ∀ k : Int, 0 ≤ k → k < g 1 → ¬ k = i → Lns g k) (hi : 0 ≤ i ∧ i < g 1) (hab : 0 ≤ a ∧ a ≤ b ∧ b < g 0) : MEq (anG g i a b) (anG g' i a b) := by
  have e0 := h0 0 (by omega) (by omega)
  have e1 := h0 1 (by omega) (by omega)
  have e2 := h0 2 (by omega) (by omega)
  have eA : aheadN g a = aheadN g' a := by unfold aheadN; rw [e2]
  have eB : behindN g b = behindN g' b := by unfold behindN; rw [e2, e0]
  have hah : 0 ≤ aheadN g a ∧ aheadN g a ≤ 8 ∧ aheadN g a ≤ a := by unfold aheadN; split <;> omega
  have hbh : 0 ≤ behindN g b ∧ behindN g b ≤ 8 ∧ behindN g b ≤ g 0 - 1 - b := by unfold behindN; split <;> omega
  refine ⟨fun j j0 j1 => ?_, fun k k0 k1 => ?_, fun k k0 k1 => ?_⟩
  · rw [anG_lo hi.1 (by omega), anG_lo hi.1 (by omega)]; exact h0 j j0 j1
  · rw [anG_lo hi.1 (by omega)] at k1
    rw [anG_lo hi.1 (by omega), anG_lo hi.1 (by omega), anG_own k0 (by omega), anG_own k0 (by omega), (h1 k k0 k1).2]
    exact ⟨(h1 k k0 k1).1, rfl⟩
  · rw [anG_lo hi.1 (by omega)] at k1
    by_cases z : k = i
    · rw [z]
      obtain ⟨t1, t2, t3, t4⟩ := anG_to (g := g) (i := i) (a := a) (b := b) hi.1
      obtain ⟨s1, s2, s3, s4⟩ := anG_to (g := g') (i := i) (a := a) (b := b) hi.1
      refine ⟨by rw [t1, s1], fun _ => ⟨by rw [t2, s2], by rw [t3, s3, eA], by rw [t4, s4, eB], fun j j0 j1 => ?_, fun j j0 j1 => ?_, fun j j0 j1 => ?_⟩⟩
      · rw [t2] at j1
        rw [anG_wd hi.1 j0 (by omega), anG_wd hi.1 j0 (by omega)]; exact (h1 _ (by omega) (by omega)).1
      · rw [t3] at j1
        rw [anG_ah hi.1 j0 (by omega), anG_ah hi.1 j0 (by omega)]; exact (h1 _ (by omega) (by omega)).1
      · rw [t4] at j1
        rw [anG_bh hi.1 j0 (by omega), anG_bh hi.1 j0 (by omega)]; exact (h1 _ (by omega) (by omega)).1
    · have hn1 := hl k k0 k1 z
      have hk := h2 k k0 k1 z
      have f1 := anG_neq (g := g) (a := a) (b := b) hi.1 k0 z (fun y => by have := hn1 y; omega)
      have f2 := anG_neq (g := g') (a := a) (b := b) hi.1 k0 z (fun y => by have y2 : g (125 + 80 * k) = -6 := hk.1.trans y; have := hn1 y2; have := hk.2 y2; omega)
      exact (f1.symm.trans hk).trans f2
theorem mq_nt' (e : MEq g g') (hI : PInv g) (a b : Int) : ntR g a b = ntR g' a b ∧ MEq (ntG g a b) (ntG g' a b) := by
  have e0 := e.1 0 (by omega) (by omega)
  have e1 := e.1 1 (by omega) (by omega)
  have hn := hI.nums
  have er : ntR g a b = ntR g' a b := by unfold ntR; rw [mq_perr e, e1]
  refine ⟨er, ?_⟩
  unfold ntG
  rw [← er]
  by_cases z : ntR g a b < 0
  · rw [if_pos z, if_pos z]; exact e
  · rw [if_neg z, if_neg z, ← e1]
    have hz : ¬ perr g a b < 0 ∧ ¬ 16 ≤ g 1 := by
      unfold ntR at z
      by_cases q : perr g a b < 0
      · rw [if_pos q] at z; exact absurd q z
      · rw [if_neg q] at z
        by_cases q2 : 16 ≤ g 1
        · rw [if_pos q2] at z; omega
        · exact ⟨q, q2⟩
    have hab := perr_ok hz.1
    have ux : ∀ (G : Int → Int) (j : Int), ¬ j = 1 → up G 1 (g 1 + 1) j = G j := fun G j hj => if_neg hj
    have u1 : ∀ G : Int → Int, up G 1 (g 1 + 1) 1 = g 1 + 1 := fun G => if_pos rfl
    refine mq_an (fun j j0 j1 => ?_) (fun k k0 k1 => ?_) (fun k k0 k1 kn => ?_) ?_ (fun k k0 k1 kn => ?_) (by rw [u1]; omega) (by rw [ux _ 0 (by omega)]; omega)
    · by_cases y : j = 1
      · rw [y, u1, u1]
      · rw [ux _ j y, ux _ j y]; exact e.1 j j0 j1
    · rw [ux _ 0 (by omega)] at k1
      rw [ux _ _ (by omega), ux _ _ (by omega), ux _ _ (by omega), ux _ _ (by omega)]
      exact e.2.1 k k0 k1
    · rw [u1] at k1
      exact (e.2.2 k k0 (by omega)).up125 k0 (fun j hj => ux _ j (by omega)) (fun j hj => ux _ j (by omega))
    · rw [u1, ux _ 0 (by omega), ux _ 2 (by omega)]; omega
    · rw [u1] at k1
      have := hI.lns' k0 (show k < g 1 by omega)
      unfold Lns at this ⊢
      rw [ux _ _ (by omega), ux _ _ (by omega), ux _ _ (by omega), ux _ _ (by omega)]
      exact this
theorem mq_rp (e : MEq g g') (hI : PInv g) (n : Int) : rpR g n = rpR g' n ∧ MEq (rpG g n) (rpG g' n) := by
  have e1 := e.1 1 (by omega) (by omega)
  have hn := hI.nums
  have er : rpR g n = rpR g' n := by unfold rpR isN; rw [e1]
  refine ⟨er, ?_⟩
  unfold rpG
  rw [← er]
  by_cases z : rpR g n < 0
  · rw [if_pos z, if_pos z]; exact e
  · rw [if_neg z, if_neg z, ← e1]
    have hz : isN g n ∧ ¬ 16 ≤ g 1 := by
      unfold rpR at z
      by_cases q : isN g n
      · rw [if_neg (fun y => y q)] at z
        by_cases q2 : 16 ≤ g 1
        · rw [if_pos q2] at z; omega
        · exact ⟨q, q2⟩
      · rw [if_pos q] at z; omega
    have ux : ∀ (G : Int → Int) (j : Int), ¬ j = 1 → ¬ j = 125 + 80 * g 1 → ¬ j = 126 + 80 * g 1 → up (up (up G (126 + 80 * g 1) 0) (125 + 80 * g 1) n) 1 (g 1 + 1) j = G j := fun G j c1 c2 c3 => (if_neg c1).trans ((if_neg c2).trans (if_neg c3))
    have u1 : ∀ (G : Int → Int), up (up (up G (126 + 80 * g 1) 0) (125 + 80 * g 1) n) 1 (g 1 + 1) 1 = g 1 + 1 := fun G => if_pos rfl
    have ut : ∀ (G : Int → Int), up (up (up G (126 + 80 * g 1) 0) (125 + 80 * g 1) n) 1 (g 1 + 1) (125 + 80 * g 1) = n := fun G => (if_neg (by omega)).trans (if_pos rfl)
    refine ⟨fun j j0 j1 => ?_, fun i i0 i1 => ?_, fun i i0 i1 => ?_⟩
    · by_cases y : j = 1
      · rw [y, u1, u1]
      · rw [ux _ j y (by omega) (by omega), ux _ j y (by omega) (by omega)]; exact e.1 j j0 j1
    · rw [ux _ 0 (by omega) (by omega) (by omega)] at i1
      rw [ux _ _ (by omega) (by omega) (by omega), ux _ _ (by omega) (by omega) (by omega), ux _ _ (by omega) (by omega) (by omega), ux _ _ (by omega) (by omega) (by omega)]
      exact e.2.1 i i0 i1
    · rw [u1] at i1
      by_cases y : i = g 1
      · rw [y]
        exact ⟨by rw [ut, ut], fun q => by rw [ut] at q; omega⟩
      · have hk := e.2.2 i i0 (by omega)
        have hl := hI.lns' i0 (show i < g 1 by omega)
        have f1 : ∀ G : Int → Int, (G (125 + 80 * i) = -6 → G (126 + 80 * i) ≤ 60 ∧ G (187 + 80 * i) ≤ 8 ∧ G (196 + 80 * i) ≤ 8) → NEq (up (up (up G (126 + 80 * g 1) 0) (125 + 80 * g 1) n) 1 (g 1 + 1)) G i := fun G hG =>
          ⟨ux _ _ (by omega) (by omega) (by omega), fun q => by
            rw [ux _ _ (by omega) (by omega) (by omega)] at q
            have w := hG q
            rw [ux _ (126 + 80 * i) (by omega) (by omega) (by omega), ux _ (187 + 80 * i) (by omega) (by omega) (by omega), ux _ (196 + 80 * i) (by omega) (by omega) (by omega)]
            exact ⟨rfl, rfl, rfl, fun j j0 j1 => ux _ _ (by omega) (by omega) (by omega), fun j j0 j1 => ux _ _ (by omega) (by omega) (by omega), fun j j0 j1 => ux _ _ (by omega) (by omega) (by omega)⟩⟩
        exact ((f1 g (fun q => by have := hl q; omega)).trans hk).trans (f1 g' (fun q => by have y2 : g (125 + 80 * i) = -6 := hk.1.trans q; have := hl y2; have := hk.2 y2; omega)).symm
theorem mq_rm (e : MEq g g') (hI : PInv g) {k : Int} (hk : 0 ≤ k ∧ k < g 1) : MEq (rmG g k) (rmG g' k) := by
  have e1 := e.1 1 (by omega) (by omega)
  have hn := hI.nums
  refine ⟨fun j j0 j1 => ?_, fun i i0 i1 => ?_, fun i i0 i1 => ?_⟩
  · by_cases z : j = 1
    · rw [z, rmG_1, rmG_1, e1]
    · rw [rmG_lo (by omega) z, rmG_lo (by omega) z]; exact e.1 j j0 j1
  · rw [rmG_lo (by omega) (by omega)] at i1
    rw [rmG_lo (by omega) (by omega), rmG_lo (by omega) (by omega), rmG_own i0 (by omega), rmG_own i0 (by omega), (e.2.1 i i0 i1).2]
    exact ⟨(e.2.1 i i0 i1).1, rfl⟩
  · rw [rmG_1] at i1
    by_cases c : i < k
    · have hk2 := e.2.2 i i0 (by omega)
      have hl := hI.lns' i0 (show i < g 1 by omega)
      have f1 : ∀ G : Int → Int, (G (125 + 80 * i) = -6 → G (126 + 80 * i) ≤ 60 ∧ G (187 + 80 * i) ≤ 8 ∧ G (196 + 80 * i) ≤ 8) → NEq (rmG G k) G i := fun G hG =>
        ⟨rmG_bel (by omega) (by omega), fun q => by
          rw [rmG_bel (by omega) (by omega)] at q
          have w := hG q
          rw [rmG_bel (j := 126 + 80 * i) (by omega) (by omega), rmG_bel (j := 187 + 80 * i) (by omega) (by omega), rmG_bel (j := 196 + 80 * i) (by omega) (by omega)]
          exact ⟨rfl, rfl, rfl, fun j j0 j1 => rmG_bel (by omega) (by omega), fun j j0 j1 => rmG_bel (by omega) (by omega), fun j j0 j1 => rmG_bel (by omega) (by omega)⟩⟩
      exact ((f1 g (fun q => by have := hl q; omega)).trans hk2).trans (f1 g' (fun q => by have y2 : g (125 + 80 * i) = -6 := hk2.1.trans q; have := hl y2; have := hk2.2 y2; omega)).symm
    · have hk2 := e.2.2 (i + 1) (by omega) (by omega)
      have hl := hI.lns' (k := i + 1) (by omega) (by omega)
      have et : rmG g k (125 + 80 * i) = rmG g' k (125 + 80 * i) := by rw [rmG_to hk.1 (by omega), rmG_to hk.1 (by omega), hk2.1]
      refine ⟨et, fun q => ?_⟩
      have q2 : g (125 + 80 * (i + 1)) = -6 := by
        rw [rmG_to hk.1 (by omega)] at q
        split at q <;> omega
      obtain ⟨w1, w2, w3, w4, w5, w6⟩ := hk2.2 q2
      have hl2 := hl q2
      have em : ∀ (G : Int → Int) (m : Int), 0 < m → m < 80 → rmG G k (125 + 80 * i + m) = G (125 + 80 * (i + 1) + m) := fun G m x y => rmG_in hk.1 (by omega) x y
      have m1 : ∀ G : Int → Int, rmG G k (126 + 80 * i) = G (126 + 80 * (i + 1)) := fun G => by rw [show 126 + 80 * i = 125 + 80 * i + 1 by omega, em G 1 (by omega) (by omega), show 125 + 80 * (i + 1) + 1 = 126 + 80 * (i + 1) by omega]
      have m2 : ∀ G : Int → Int, rmG G k (187 + 80 * i) = G (187 + 80 * (i + 1)) := fun G => by rw [show 187 + 80 * i = 125 + 80 * i + 62 by omega, em G 62 (by omega) (by omega), show 125 + 80 * (i + 1) + 62 = 187 + 80 * (i + 1) by omega]
      have m3 : ∀ G : Int → Int, rmG G k (196 + 80 * i) = G (196 + 80 * (i + 1)) := fun G => by rw [show 196 + 80 * i = 125 + 80 * i + 71 by omega, em G 71 (by omega) (by omega), show 125 + 80 * (i + 1) + 71 = 196 + 80 * (i + 1) by omega]
      rw [m1, m1, m2, m2, m3, m3]
      refine ⟨w1, w2, w3, fun j d1 d2 => ?_, fun j d1 d2 => ?_, fun j d1 d2 => ?_⟩
      · rw [show 127 + 80 * i + j = 125 + 80 * i + (2 + j) by omega, em _ (2 + j) (by omega) (by omega), em _ (2 + j) (by omega) (by omega), show 125 + 80 * (i + 1) + (2 + j) = 127 + 80 * (i + 1) + j by omega]; exact w4 j d1 d2
      · rw [show 188 + 80 * i + j = 125 + 80 * i + (63 + j) by omega, em _ (63 + j) (by omega) (by omega), em _ (63 + j) (by omega) (by omega), show 125 + 80 * (i + 1) + (63 + j) = 188 + 80 * (i + 1) + j by omega]; exact w5 j d1 d2
      · rw [show 197 + 80 * i + j = 125 + 80 * i + (72 + j) by omega, em _ (72 + j) (by omega) (by omega), em _ (72 + j) (by omega) (by omega), show 125 + 80 * (i + 1) + (72 + j) = 197 + 80 * (i + 1) + j by omega]; exact w6 j d1 d2
theorem fam_cong {n : Int} : ∀ k : Nat, (∀ i : Int, n < i → i ≤ n + k → g (125 + 80 * i) = g' (125 + 80 * i)) → fam g n k = fam g' n k
  | 0, _ => rfl
  | k + 1, h => by
    have ih := fam_cong k (fun i i0 i1 => h i i0 (by omega))
    have ht : tgt g (n + 1 + k) = tgt g' (n + 1 + k) := h (n + 1 + k) (by omega) (by omega)
    by_cases c : isin (fam g n k : Int) (tgt g (n + 1 + k))
    · rw [fam_yes c, fam_yes (by rw [← ih, ← ht]; exact c), ih]
    · rw [fam_no c, fam_no (by rw [← ih, ← ht]; exact c), ih]
theorem mq_fam (e : MEq g g') {n : Int} (hn : 0 ≤ n ∧ n < g 1) : famS g n = famS g' n := by
  have e1 := e.1 1 (by omega) (by omega)
  show ((fam g n (g 1 - 1 - n).toNat : Nat) : Int) = ((fam g' n (g' 1 - 1 - n).toNat : Nat) : Int)
  rw [← e1, fam_cong _ (fun i i0 i1 => (e.2.2 i (by omega) (by omega)).1)]
/-- one step of a drop -/
theorem dps_yes {m n : Int} {c : Nat} (hn : 0 ≤ n) (h : PInv g) (hc : n + c < g 1) (hq : Clo m n (c + 1) g) (z : isin m (n + c)) : PInv (rmG g (n + c)) ∧ Clo m n c (rmG g (n + c)) := by
  have hnu := h.nums
  have x1 : rmG g (n + c) 1 = g 1 - 1 := by unfold rmG; exact if_pos rfl
  refine ⟨h.rm (by omega) (fun i i0 i1 e => ?_), fun i i0 i1 t0 t1 t2 => ?_⟩
  · have := hq i i0 i1 (by omega) (by omega) (by rw [e]; exact z)
    have := h.tg i0 i1
    omega
  · by_cases y : i < n + c
    · have e : tgt (rmG g (n + c)) i = tgt g i := rm_in (by omega) (by omega)
      rw [e] at t0 t1 t2
      exact ⟨y, (hq i i0 (by omega) t0 (by omega) t2).2⟩
    · have e : tgt (rmG g (n + c)) i = if n + c < tgt g (i + 1) then tgt g (i + 1) - 1 else tgt g (i + 1) := rm_to (by omega) (by omega)
      have e2 : tgt (rmG g (n + c)) i = tgt g (i + 1) := by rw [e]; rw [e] at t1; split at t1; omega; exact if_neg (by assumption)
      rw [e2] at t0 t1 t2
      have := hq (i + 1) (by omega) (by omega) t0 (by omega) t2
      omega
theorem dps_no {m n : Int} {c : Nat} (hq : Clo m n (c + 1) g) (z : ¬ isin m (n + c)) : Clo m n c g := fun i i0 i1 t0 t1 t2 => by
  have q := hq i i0 i1 t0 (by omega) t2
  have : ¬ i = n + c := fun e => z (by rw [← e]; exact q.2)
  exact ⟨by omega, q.2⟩
end
theorem mq_drp {m n : Int} (hn : 0 ≤ n) : ∀ (c : Nat) {g g' : Int → Int}, MEq g g' → PInv g → n + c ≤ g 1 → Clo m n c g → MEq (drp m c n g) (drp m c n g')
  | 0, _, _, e, _, _, _ => e
  | c + 1, g, g', e, h, hc, hq => by
    have hnu := h.nums
    simp only [drp]
    by_cases z : isin m (n + c)
    · rw [if_pos z, if_pos z]
      obtain ⟨h2, hq2⟩ := dps_yes hn h (by omega) hq z
      have x1 : rmG g (n + c) 1 = g 1 - 1 := by unfold rmG; exact if_pos rfl
      exact mq_drp hn c (mq_rm e h (by omega)) h2 (by omega) hq2
    · rw [if_neg z, if_neg z]
      exact mq_drp hn c e h (by omega) (dps_no hq z)
section
variable {g g' : Int → Int}
theorem mq_dp (e : MEq g g') (hI : PInv g) (n : Int) : dpR g n = dpR g' n ∧ MEq (dpG g n) (dpG g' n) := by
  have e1 := e.1 1 (by omega) (by omega)
  have hn := hI.nums
  unfold dpR dpG isN
  rw [← e1]
  by_cases z : ¬ (0 ≤ n ∧ n < g 1)
  · rw [if_pos z, if_pos z, if_pos z, if_pos z]; exact ⟨rfl, e⟩
  · have z2 := Decidable.not_not.mp z
    rw [if_neg z, if_neg z, if_neg z, if_neg z, ← mq_fam e z2]
    exact ⟨rfl, mq_drp z2.1 _ e hI (by omega) (fam_clo hI z2)⟩
theorem mq_best (e : MEq g g') (hI : PInv g) {n : Int} (hn : 0 ≤ n ∧ n < g 1) (ht : g (125 + 80 * n) = -6) : bstN g n = bstN g' n := by
  have e0 := e.1 0 (by omega) (by omega)
  have hnu := hI.nums
  have hk := e.2.2 n hn.1 hn.2
  obtain ⟨w1, w2, w3, w4, w5, w6⟩ := hk.2 ht
  have hl := hI.lns' hn.1 hn.2 ht
  have hit : ∀ i : Int, itm (g 0) (LT g) i = itm (g' 0) (LT g') i := fun i => by
    unfold itm
    rw [← e0]
    by_cases c : 0 ≤ i ∧ i < g 0
    · rw [if_pos c, if_pos c]; exact (e.2.1 i c.1 c.2).1
    · rw [if_neg c, if_neg c]
  have eo : okN g n = okN g' n := by
    funext p
    unfold okN okS
    rw [← w1, alk_congr (n' := g' 0) (f' := LT g') (W' := fun j => g' (127 + 80 * n + j)) (fun j j0 j1 => by rw [hit, w4 j j0 j1])]
  have el : lkN g n = lkN g' n := by
    funext p
    have q1 : alk (g 0) (LT g) (p - 1) (-1) (fun j => g (188 + 80 * n + j)) (g (187 + 80 * n)) = alk (g' 0) (LT g') (p - 1) (-1) (fun j => g' (188 + 80 * n + j)) (g (187 + 80 * n)) := alk_congr (fun j j0 j1 => by rw [hit, w5 j j0 j1])
    have q2 : alk (g 0) (LT g) (p + g (126 + 80 * n)) 1 (fun j => g (197 + 80 * n + j)) (g (196 + 80 * n)) = alk (g' 0) (LT g') (p + g (126 + 80 * n)) 1 (fun j => g' (197 + 80 * n + j)) (g (196 + 80 * n)) := alk_congr (fun j j0 j1 => by rw [hit, w6 j j0 j1])
    unfold lkN lkS
    rw [← w1, ← w2, ← w3, q1, q2]
  unfold bstN
  rw [eo, el, e0]
theorem stt_1 {n : Int} (h : stt g n = 1) : g (125 + 80 * n) = -6 := by
  unfold stt at h
  split at h
  · omega
  · next z => exact Decidable.not_not.mp z
theorem mq_rc (e : MEq g g') (hI : PInv g) (n : Int) : rcR g n = rcR g' n ∧ MEq (rcG g n) (rcG g' n) := by
  have e1 := e.1 1 (by omega) (by omega)
  have hnu := hI.nums
  by_cases z : 0 ≤ n ∧ n < g 1
  · have z' : 0 ≤ n ∧ n < g' 1 := by omega
    have es := mq_stt e z
    by_cases z2 : stt g n = 1
    · have ht := stt_1 z2
      have eb := mq_best e hI z ht
      have hk := e.2.2 n z.1 z.2
      have w1 := (hk.2 ht).1
      have er : rcR g n = rcR g' n := by
        have a1 : rcR g n = if (bstN g n).2.2 = 0 then -5 else (bstN g n).1 := (if_neg (fun y => y z)).trans (if_neg (fun y => y z2))
        have a2 : rcR g' n = if (bstN g' n).2.2 = 0 then -5 else (bstN g' n).1 := (if_neg (fun y => y z')).trans (if_neg (fun y => y (es.symm.trans z2)))
        rw [a1, a2, eb]
      refine ⟨er, ?_⟩
      unfold rcG
      rw [← er, ← eb, ← w1]
      by_cases c : rcR g n < 0
      · rw [if_pos c, if_pos c]; exact e
      · rw [if_neg c, if_neg c]
        have hb := bst_bd hI z.1 z.2 ht
        have hpos : 0 < (bstN g n).2.2 := by
          have hb0 := hb.1
          by_cases y : (bstN g n).2.2 = 0
          · exfalso; apply c; unfold rcR; rw [if_neg (fun y => y z), if_neg (fun y => y z2), if_pos y]; omega
          · omega
        have hb4 := hb.2.2.2 hpos
        exact mq_an e.1 e.2.1 (fun k k0 k1 _ => e.2.2 k k0 k1) (by omega) (fun k k0 k1 _ => hI.lns' k0 k1) z (by omega)
    · have er : rcR g n = -5 := by unfold rcR; rw [if_neg (fun y => y z), if_pos z2]
      have er' : rcR g' n = -5 := by unfold rcR; rw [if_neg (fun y => y z'), if_pos (fun y => z2 (es.trans y))]
      refine ⟨er.trans er'.symm, ?_⟩
      unfold rcG
      rw [er, er', if_pos (by omega), if_pos (by omega)]
      exact e
  · have er : rcR g n = -1 := if_pos z
    have er' : rcR g' n = -1 := if_pos (by omega)
    refine ⟨er.trans er'.symm, ?_⟩
    unfold rcG
    rw [er, er', if_pos (by omega), if_pos (by omega)]
    exact e
theorem orI_congr {a b : Int} : ∀ k : Nat, (∀ i : Int, 0 ≤ i → i < k → g (65 + i) = g' (65 + i)) → orI g a b k = orI g' a b k
  | 0, _ => rfl
  | k + 1, h => by
    have e : OW g (k : Int) = OW g' (k : Int) := h k (by omega) (by omega)
    simp only [orI]
    rw [orI_congr k (fun i i0 i1 => h i i0 (by omega)), e]
theorem mq_er (e : MEq g g') (hI : PInv g) (a b : Int) : erR g a b = erR g' a b ∧ MEq (erG g a b) (erG g' a b) := by
  have e0 := e.1 0 (by omega) (by omega)
  have hnu := hI.nums
  have eo : ors g a b = ors g' a b := by
    unfold ors
    rw [← e0, orI_congr (g := g) (g' := g') _ (fun i i0 i1 => (e.2.1 i i0 (by omega)).2)]
  unfold erR erG
  rw [← mq_perr e, ← eo]
  refine ⟨rfl, ?_⟩
  by_cases z : perr g a b < 0
  · rw [if_pos z, if_pos z]; exact e
  · rw [if_neg z, if_neg z]
    have := perr_ok z
    exact mq_dl e (by omega)
theorem mq_mvs (e : MEq g g') (hI : PInv g) (a b p : Int) : mvR g a b p = mvR g' a b p ∧ MEq (mvS g a b p) (mvS g' a b p) := by
  have e0 := e.1 0 (by omega) (by omega)
  have hnu := hI.nums
  have em : mverr g a b p = mverr g' a b p := by unfold mverr; rw [mq_perr e, e0]
  unfold mvR mvS
  rw [← em]
  by_cases z : mverr g a b p < 0
  · rw [if_pos z, if_pos z, if_pos z, if_pos z]; exact ⟨rfl, e⟩
  · rw [if_neg z, if_neg z, if_neg z, if_neg z]
    have h1 : ¬ perr g a b < 0 := by
      unfold mverr at z
      split at z
      · next q => exact absurd q z
      · assumption
    have h2 : 0 ≤ p ∧ p ≤ g 0 - (b - a + 1) := by
      unfold mverr at z
      rw [if_neg h1] at z
      split at z <;> omega
    have h3 := perr_ok h1
    have hm := mq_mv e (a := a) (b := b) (p := p) (by omega) h2
    exact ⟨mq_ptd hm, hm⟩
theorem mq_wr (e : MEq g g') (hI : PInv g) (p c : Int) : wrR g p c = wrR g' p c ∧ MEq (wrG g p c) (wrG g' p c) := by
  have e0 := e.1 0 (by omega) (by omega)
  have hnu := hI.nums
  have er : wrR g p c = wrR g' p c := by unfold wrR; rw [e0]
  refine ⟨er, ?_⟩
  unfold wrG
  rw [← er]
  by_cases z : wrR g p c < 0
  · rw [if_pos z, if_pos z]; exact e
  · rw [if_neg z, if_neg z]
    have h2 : ¬ ¬ (0 ≤ p ∧ p ≤ g 0) ∧ ¬ ¬ (0 ≤ c ∧ c < 26) ∧ ¬ 60 ≤ g 0 := by
      unfold wrR at z
      (repeat' split at z) <;> omega
    exact mq_cm e (by omega)
theorem mq_wt {n : Int} {f : Int → Int} {p lf nx : Int} : ∀ (k : Nat) (i : Int) {s s' : Int × (Int → Int)}, s.1 = s'.1 → MEq s.2 s'.2 → PInv s.2 → (wtS n f p lf nx k i s).1 = (wtS n f p lf nx k i s').1 ∧ MEq (wtS n f p lf nx k i s).2 (wtS n f p lf nx k i s').2
  | 0, _, _, _, h, e, _ => ⟨h, e⟩
  | k + 1, i, s, s', h, e, hI => by
    simp only [wtS]
    rw [← h]
    by_cases c : i < nx ∧ 0 ≤ s.1
    · rw [if_pos c, if_pos c]
      have q := mq_wr e hI (p + i - lf) (itm n f i - 97)
      exact mq_wt k (i + 1) q.1 q.2 (hI.wr _ _)
    · rw [if_neg c, if_neg c]; exact ⟨h, e⟩
theorem mq_ob {n : Int} {f : Int → Int} {kd a b c lf nx : Int} (e : MEq g g') (hI : PInv g) : (obK n f kd a b c lf nx g).1 = (obK n f kd a b c lf nx g').1 ∧ MEq (obK n f kd a b c lf nx g).2 (obK n f kd a b c lf nx g').2 := by
  unfold obK
  by_cases c1 : kd = 43
  · rw [if_pos c1, if_pos c1]; exact mq_wt 80 lf rfl e hI
  · rw [if_neg c1, if_neg c1]
    by_cases c2 : kd = 45
    · rw [if_pos c2, if_pos c2]; exact mq_er e hI a b
    · rw [if_neg c2, if_neg c2]
      by_cases c3 : kd = 99
      · rw [if_pos c3, if_pos c3]; exact mq_rc e hI a
      · rw [if_neg c3, if_neg c3]
        by_cases c4 : kd = 109
        · rw [if_pos c4, if_pos c4]; exact mq_mvs e hI a b c
        · rw [if_neg c4, if_neg c4]
          by_cases c5 : kd = 110
          · rw [if_pos c5, if_pos c5]; exact mq_nt' e hI a b
          · rw [if_neg c5, if_neg c5]
            by_cases c6 : kd = 114
            · rw [if_pos c6, if_pos c6]; exact mq_rp e hI a
            · rw [if_neg c6, if_neg c6]
              by_cases c7 : kd = 120
              · rw [if_pos c7, if_pos c7]; exact mq_dp e hI a
              · rw [if_neg c7, if_neg c7]; exact ⟨rfl, e⟩
end

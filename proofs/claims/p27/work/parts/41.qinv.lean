/-! of a note no more letters are there than its words have -/
def Qn (g : Int → Int) : Prop := ∀ n : Int, 0 ≤ n → n < g 1 → tgt g n = -6 → ntL g n ≤ g (126 + 80 * n)
theorem ntL_cnt (g : Int → Int) (n : Int) : ntL g n = cnt (ownb (OW g) n) (g 0).toNat := scL_cnt _ _
theorem ntL_same {g g' : Int → Int} (h0 : g' 0 = g 0) (ho : ∀ i : Int, 0 ≤ i → i < g 0 → g' (65 + i) = g (65 + i)) (n : Int) : ntL g' n = ntL g n := by
  rw [ntL_cnt, ntL_cnt, h0]
  exact cnt_congr (fun i h0 h1 => congrArg (fun m => decide (isin m n)) (ho i h0 (by omega)))
theorem Qn.le {g g' : Int → Int} (h : Qn g) (h1 : g' 1 = g 1) (hL : ∀ n : Int, 0 ≤ n → n < g 1 → ntL g' n ≤ ntL g n) (hn : ∀ j : Int, 125 ≤ j → g' j = g j) : Qn g' := by
  intro n n0 n1 e
  rw [h1] at n1
  have e2 : tgt g n = -6 := (hn _ (by omega)).symm.trans e
  rw [hn (126 + 80 * n) (by omega)]
  exact Int.le_trans (hL n n0 n1) (h n n0 n1 e2)
theorem Qn.st {g : Int → Int} (h : Qn g) (s v : Int) : Qn (setG g s v) := by
  unfold setG
  split
  · next z =>
    have e : ∀ j : Int, ¬ j = 2 + s → up g (2 + s) v j = g j := fun j q => if_neg q
    refine h.le (e 1 (by omega)) (fun n n0 n1 => ?_) (fun j hj => e j (by omega))
    exact Int.le_of_eq (ntL_same (e 0 (by omega)) (fun i i0 i1 => e _ (by omega)) n)
  · exact h
theorem Qn.wr {g : Int → Int} (hI : PInv g) (h : Qn g) (p c : Int) : Qn (wrG g p c) := by
  unfold wrG
  by_cases z : wrR g p c < 0
  · rw [if_pos z]; exact h
  · rw [if_neg z]
    have hnu := hI.nums
    have h2 : 0 ≤ p ∧ p ≤ g 0 ∧ g 0 < 60 := by
      unfold wrR at z
      (repeat' split at z) <;> omega
    obtain ⟨e0, e1, e2, e3, e4⟩ := cmG_at (g := g) (p := p) (c := c) (o := 0)
    refine h.le (e1 1 (by omega) (by omega)) (fun n n0 n1 => ?_) e4
    rw [ntL_cnt, ntL_cnt, e0]
    obtain ⟨a, ha⟩ : ∃ a : Nat, p = (a : Int) := ⟨p.toNat, by omega⟩
    obtain ⟨w, hw⟩ : ∃ w : Nat, g 0 = p + (w : Int) := ⟨(g 0 - p).toNat, by omega⟩
    rw [show (g 0 + 1).toNat = a + 1 + w by omega, show (g 0).toNat = a + w by omega]
    have hb : ∀ i : Int, 0 ≤ i → i < 60 → ownb (OW (cmG g p c 0)) n i = decide (isin (ins (OW g) p 0 i) n) := fun i i0 i1 => congrArg (fun m => decide (isin m n)) (e3 i i0 i1)
    refine Int.le_of_eq (cnt_come a w (fun i i0 i1 => ?_) ?_ (fun i i0 i1 => ?_))
    · rw [hb i i0 (by omega)]
      exact congrArg (fun m => decide (isin m n)) (by unfold ins; rw [if_pos (by omega)])
    · rw [hb _ (by omega) (by omega)]
      rw [show ins (OW g) p 0 (a : Int) = 0 by unfold ins; rw [if_neg (by omega), if_pos (by omega)]]
      exact fun q => by have := (of_decide_eq_true q).2.2; rw [btt_0] at this; cases this
    · rw [hb _ (by omega) (by omega)]
      exact congrArg (fun m => decide (isin m n)) (by unfold ins; rw [if_neg (by omega), if_neg (by omega)]; congr 1; omega)
theorem Qn.er {g : Int → Int} (hI : PInv g) (h : Qn g) (a b : Int) : Qn (erG g a b) := by
  unfold erG
  by_cases z : perr g a b < 0
  · rw [if_pos z]; exact h
  · rw [if_neg z]
    have hnu := hI.nums
    have h2 := perr_ok z
    obtain ⟨e0, e1, e2, e3, e4⟩ := dlG_at (g := g) (a := a) (b := b)
    refine h.le (e1 1 (by omega) (by omega)) (fun n n0 n1 => ?_) e4
    rw [ntL_cnt, ntL_cnt, e0]
    obtain ⟨A, hA⟩ : ∃ A : Nat, a = (A : Int) := ⟨a.toNat, by omega⟩
    obtain ⟨u, hu⟩ : ∃ u : Nat, b + 1 = a + (u : Int) := ⟨(b + 1 - a).toNat, by omega⟩
    obtain ⟨w, hw⟩ : ∃ w : Nat, g 0 = b + 1 + (w : Int) := ⟨(g 0 - b - 1).toNat, by omega⟩
    rw [show (g 0 - (b - a + 1)).toNat = A + w by omega, show (g 0).toNat = A + u + w by omega]
    have hb : ∀ i : Int, 0 ≤ i → i < 60 → ownb (OW (dlG g a b)) n i = decide (isin (del (OW g) a b i) n) := fun i i0 i1 => congrArg (fun m => decide (isin m n)) (e3 i i0 i1)
    refine cnt_go A u w (fun i i0 i1 => ?_) (fun i i0 i1 => ?_)
    · rw [hb i i0 (by omega)]
      exact congrArg (fun m => decide (isin m n)) (by unfold del; rw [if_pos (by omega)])
    · rw [hb _ (by omega) (by omega)]
      exact congrArg (fun m => decide (isin m n)) (by unfold del; rw [if_neg (by omega)]; congr 1; omega)
theorem Qn.mvs {g : Int → Int} (hI : PInv g) (h : Qn g) (a b p : Int) : Qn (mvS g a b p) := by
  unfold mvS
  by_cases z : mverr g a b p < 0
  · rw [if_pos z]; exact h
  · rw [if_neg z]
    have h1 : ¬ perr g a b < 0 := by
      unfold mverr at z
      split at z
      · next q => exact absurd q z
      · assumption
    have h2 : 0 ≤ p ∧ p ≤ g 0 - (b - a + 1) := by
      unfold mverr at z
      rw [if_neg h1] at z
      split at z <;> omega
    have h3 := perr_ok h1
    have hnu := hI.nums
    obtain ⟨e1, e2, e3, e4⟩ := mvG_at (g := g) (a := a) (b := b) (p := p)
    refine h.le (e1 1 (by omega) (by omega)) (fun n n0 n1 => ?_) e4
    rw [ntL_cnt, ntL_cnt, e1 0 (by omega) (by omega)]
    exact Int.le_of_eq ((cnt_congr (fun i i0 i1 => congrArg (fun m => decide (isin m n)) (e3 i i0 (by omega)))).trans (cnt_mvf (OW g) (fun m => decide (isin m n)) ⟨by omega, by omega, by omega⟩ ⟨by omega, by omega⟩))
theorem Qn.rp {g : Int → Int} (hI : PInv g) (h : Qn g) (k : Int) : Qn (rpG g k) := by
  unfold rpG
  by_cases z : rpR g k < 0
  · rw [if_pos z]; exact h
  · rw [if_neg z]
    have hnu := hI.nums
    have h1 : isN g k := by
      unfold rpR at z
      by_cases q : ¬ isN g k
      · rw [if_pos q] at z; omega
      · exact Decidable.not_not.mp q
    obtain ⟨u1, ut, ux⟩ := rpS_at (g := g) (n := k) (by omega)
    generalize up (up (up g (126 + 80 * g 1) 0) (125 + 80 * g 1) k) 1 (g 1 + 1) = G at u1 ut ux ⊢
    intro n n0 n1 e
    by_cases c : n = g 1
    · have e2 : G (125 + 80 * g 1) = -6 := by rw [← c]; exact e
      have := h1.1; omega
    · have x : ∀ j : Int, 125 + 80 * n ≤ j → j < 205 + 80 * n → G j = g j := fun j j0 j1 => ux j (by omega) (by omega) (by omega)
      rw [ntL_same (ux 0 (by omega) (by omega) (by omega)) (fun i i0 i1 => ux _ (by omega) (by omega) (by omega)) n, x _ (by omega) (by omega)]
      exact h n n0 (by omega) ((x _ (by omega) (by omega)).symm.trans e)
theorem Qn.an {g : Int → Int} {i a b : Int} (h60 : g 0 ≤ 60) (hab : 0 ≤ a ∧ a ≤ b ∧ b < g 0) (hi : 0 ≤ i) (hno : ∀ j : Int, 0 ≤ j → j < g 0 → ¬ isin (OW g j) i) (hk : ∀ k : Int, 0 ≤ k → k < g 1 → ¬ k = i → tgt g k = -6 → ntL g k ≤ g (126 + 80 * k)) : Qn (anG g i a b) := by
  intro k k0 k1 e
  have x0 : anG g i a b 0 = g 0 := anG_lo hi (by omega)
  have x1 : anG g i a b 1 = g 1 := anG_lo hi (by omega)
  rw [x1] at k1
  have hown : ∀ j : Int, 0 ≤ j → j < 60 → ownb (OW (anG g i a b)) k j = decide (isin (if a ≤ j ∧ j ≤ b then addB (g (65 + j)) i else g (65 + j)) k) := fun j j0 j1 => congrArg (fun m => decide (isin m k)) (anG_own j0 j1)
  rw [ntL_cnt, x0]
  by_cases c : k = i
  · subst c
    rw [(anG_to hi).2.1]
    refine Int.le_trans (cnt_mono (Q := fun j => decide (a ≤ j ∧ j ≤ b)) (fun j j0 j1 q => ?_)) (cnt_range a b (by omega) (by omega) _).1
    rw [hown j j0 (by omega)] at q
    by_cases d : a ≤ j ∧ j ≤ b
    · exact decide_eq_true d
    · rw [if_neg d] at q; exact absurd (of_decide_eq_true q) (hno j j0 (by omega))
  · have e2 : tgt g k = -6 := (anG_oth (g := g) (i := i) (a := a) (b := b) (j := 125 + 80 * k) hi (by omega) (by omega)).symm.trans e
    rw [anG_oth (j := 126 + 80 * k) hi (by omega) (by omega)]
    refine Int.le_trans (Int.le_of_eq (cnt_congr (fun j j0 j1 => ?_))) (Int.le_trans (Int.le_of_eq (ntL_cnt g k).symm) (hk k k0 k1 c e2))
    rw [hown j j0 (by omega)]
    show _ = decide (isin (g (65 + j)) k)
    by_cases d : a ≤ j ∧ j ≤ b
    · rw [if_pos d, decide_eq_decide]
      show (0 ≤ k ∧ k < 16 ∧ btt (addB (g (65 + j)) i) k = true) ↔ (0 ≤ k ∧ k < 16 ∧ btt (g (65 + j)) k = true)
      rw [btt_addB hi k0, decide_eq_false (fun z => c z.symm), Bool.or_false]
    · rw [if_neg d]
theorem Qn.nt {g : Int → Int} (hI : PInv g) (h : Qn g) (a b : Int) : Qn (ntG g a b) := by
  unfold ntG
  by_cases z : ntR g a b < 0
  · rw [if_pos z]; exact h
  · rw [if_neg z]
    have h1 : ¬ perr g a b < 0 := by
      intro q
      unfold ntR at z
      rw [if_pos q] at z; exact z q
    have hab := perr_ok h1
    have hn := hI.nums
    obtain ⟨-, -, -, -, -, -, -, -, -, -, h11, h12, h13⟩ := hI
    have u1 : up g 1 (g 1 + 1) 1 = g 1 + 1 := if_pos rfl
    have ux : ∀ j : Int, ¬ j = 1 → up g 1 (g 1 + 1) j = g j := fun j hj => if_neg hj
    refine Qn.an (by rw [ux 0 (by omega)]; omega) (by rw [ux 0 (by omega)]; omega) (by omega) (fun j j0 j1 q => ?_) (fun k k0 k1 kn e => ?_)
    · rw [ux 0 (by omega)] at j1
      have q2 : isin (g (65 + j)) (g 1) := by rw [← ux (65 + j) (by omega)]; exact q
      have := ((h12 j j0 j1).2.2 _ q2).1
      omega
    · rw [u1] at k1
      rw [ntL_same (g := g) (ux 0 (by omega)) (fun i i0 i1 => ux _ (by omega)) k, ux _ (by omega)]
      exact h k k0 (by omega) ((ux _ (by omega)).symm.trans e)
theorem Qn.rc {g : Int → Int} (hI : PInv g) (h : Qn g) (n : Int) : Qn (rcG g n) := by
  unfold rcG
  by_cases z : rcR g n < 0
  · rw [if_pos z]; exact h
  · rw [if_neg z]
    unfold rcR at z
    by_cases c1 : ¬ isN g n
    · rw [if_pos c1] at z; omega
    · rw [if_neg c1] at z
      by_cases c2 : ¬ stt g n = 1
      · rw [if_pos c2] at z; omega
      · rw [if_neg c2] at z
        by_cases c3 : (bstN g n).2.2 = 0
        · rw [if_pos c3] at z; omega
        · have hin := Decidable.not_not.mp c1
          have ht : tgt g n = -6 ∧ ntL g n = 0 := by
            have c4 : stt g n = 1 := Decidable.not_not.mp c2
            have hb := (nt_bd g n)
            unfold stt at c4
            split at c4
            · omega
            · next y =>
              split at c4
              · omega
              · exact ⟨Decidable.not_not.mp y, by omega⟩
          have hb := bst_bd hI hin.1 hin.2 ht.1
          have hb2 := hb.2.2.2 (by omega)
          have hn := hI.nums
          have h0 := ht.2
          rw [ntL_cnt] at h0
          refine Qn.an (by omega) (by omega) hin.1 (fun j j0 j1 q => ?_) (fun k k0 k1 _ e => h k k0 k1 e)
          exact cnt_all0 h0 j j0 (by omega) (decide_eq_true q)
theorem ntL_rm {g : Int → Int} {k i : Int} (h60 : g 0 ≤ 60) (how : ∀ j : Int, 0 ≤ j → j < g 0 → 0 ≤ OW g j ∧ OW g j < 65536) (hk : 0 ≤ k) (hi : 0 ≤ i) : ntL (rmG g k) i = ntL g (if i < k then i else i + 1) := by
  rw [ntL_cnt, ntL_cnt, rmG_lo (j := 0) (by omega) (by omega)]
  refine cnt_congr (fun j j0 j1 => ?_)
  have hj := how j j0 (by omega)
  refine (congrArg (fun m => decide (isin m i)) (rmG_own (g := g) (k := k) j0 (by omega))).trans ?_
  show decide (isin (dropB (g (65 + j)) k) i) = decide (isin (OW g j) (if i < k then i else i + 1))
  rw [decide_eq_decide]
  show (0 ≤ i ∧ i < 16 ∧ btt (dropB (OW g j) k) i = true) ↔ (0 ≤ (if i < k then i else i + 1) ∧ (if i < k then i else i + 1) < 16 ∧ btt (OW g j) (if i < k then i else i + 1) = true)
  rw [btt_dropB hj hk hi]
  by_cases c : i < k
  · rw [if_pos c, if_pos c]
  · rw [if_neg c, if_neg c]
    refine ⟨fun q => ⟨by omega, btt_lt hj q.2.2, q.2.2⟩, fun q => ⟨hi, by omega, q.2.2⟩⟩
theorem Qn.rm {g : Int → Int} {k : Int} (h : Qn g) (h60 : g 0 ≤ 60) (how : ∀ j : Int, 0 ≤ j → j < g 0 → 0 ≤ OW g j ∧ OW g j < 65536) (hk : 0 ≤ k) : Qn (rmG g k) := by
  intro i i0 i1 e
  rw [rmG_1] at i1
  rw [ntL_rm h60 how hk i0]
  by_cases c : i < k
  · rw [if_pos c, rmG_bel (by omega) (by omega)]
    have e2 : rmG g k (125 + 80 * i) = g (125 + 80 * i) := rmG_bel (by omega) (by omega)
    exact h i i0 (by omega) (e2.symm.trans e)
  · rw [if_neg c]
    have e1 := rmG_in (g := g) (k := k) (i := i) (m := 1) hk (by omega) (by omega) (by omega)
    rw [show 125 + 80 * i + 1 = 126 + 80 * i by omega, show 125 + 80 * (i + 1) + 1 = 126 + 80 * (i + 1) by omega] at e1
    rw [e1]
    have e2 := rmG_to (g := g) (k := k) (i := i) hk (by omega)
    have e3 : rmG g k (125 + 80 * i) = -6 := e
    rw [e3] at e2
    refine h (i + 1) (by omega) (by omega) ?_
    show g (125 + 80 * (i + 1)) = -6
    split at e2 <;> omega
theorem Qn.dps {m n : Int} (hn : 0 ≤ n) : ∀ (c : Nat) (g : Int → Int), Qn g → g 0 ≤ 60 → (∀ j : Int, 0 ≤ j → j < g 0 → 0 ≤ OW g j ∧ OW g j < 65536) → Qn (drp m c n g)
  | 0, _, h, _, _ => h
  | c + 1, g, h, h60, how => by
    simp only [drp]
    by_cases z : isin m (n + c)
    · rw [if_pos z]
      have e0 : rmG g (n + c) 0 = g 0 := rmG_lo (by omega) (by omega)
      exact Qn.dps hn c _ (h.rm h60 how (by omega)) (by omega) (how_rm h60 how)
    · rw [if_neg z]
      exact Qn.dps hn c _ h h60 how
theorem Qn.dp {g : Int → Int} (hI : PInv g) (h : Qn g) (n : Int) : Qn (dpG g n) := by
  unfold dpG
  by_cases z : ¬ isN g n
  · rw [if_pos z]; exact h
  · rw [if_neg z]
    have hnu := hI.nums
    exact Qn.dps (Decidable.not_not.mp z).1 _ _ h (by omega) hI.own

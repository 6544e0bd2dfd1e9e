/-! the states that the calls leave keep what holds of states -/
theorem PInv.wr {g : Int → Int} (h : PInv g) (p c : Int) : PInv (wrG g p c) := by
  unfold wrG
  by_cases z : wrR g p c < 0
  · rw [if_pos z]; exact h
  · rw [if_neg z]
    have hn := h.nums
    have h2 : ¬ ¬ (0 ≤ p ∧ p ≤ g 0) ∧ ¬ ¬ (0 ≤ c ∧ c < 26) ∧ ¬ 60 ≤ g 0 := by
      unfold wrR at z
      (repeat' split at z) <;> omega
    exact h.cm (by omega) (by omega) (by omega)
theorem PInv.st {g : Int → Int} (h : PInv g) (s v : Int) : PInv (setG g s v) := by
  unfold setG
  split
  · next z => exact h.set z
  · exact h
theorem PInv.er {g : Int → Int} (h : PInv g) (a b : Int) : PInv (erG g a b) := by
  unfold erG
  split
  · exact h
  · next z => exact h.dl (perr_ok z)
theorem PInv.mvs {g : Int → Int} (h : PInv g) (a b p : Int) : PInv (mvS g a b p) := by
  unfold mvS
  by_cases z : mverr g a b p < 0
  · rw [if_pos z]; exact h
  · rw [if_neg z]
    have h1 : ¬ perr g a b < 0 := by
      unfold mverr at z
      split at z
      · next q => exact absurd q z
      · assumption
    have h2 : 0 ≤ p ∧ p ≤ g 0 - (b - a + 1) := by
      unfold mverr at z
      rw [if_neg h1] at z
      split at z <;> omega
    exact h.mv (perr_ok h1) h2
theorem PInv.an {g : Int → Int} {i a b : Int} (hn : 0 ≤ g 0 ∧ g 0 ≤ 60 ∧ 0 ≤ g 1 ∧ g 1 ≤ 16 ∧ 0 ≤ g 2 ∧ g 2 ≤ 8 ∧ 1 ≤ g 3 ∧ g 3 ≤ 60 ∧ 1 ≤ g 4 ∧ g 4 ≤ 9)
    (hl : ∀ j : Int, 0 ≤ j → j < g 0 → 0 ≤ g (5 + j) ∧ g (5 + j) ≤ 25)
    (ho : ∀ j : Int, 0 ≤ j → j < g 0 → 0 ≤ g (65 + j) ∧ g (65 + j) < 65536 ∧ ∀ k : Int, isin (g (65 + j)) k → k < g 1 ∧ (k = i ∨ g (125 + 80 * k) = -6))
    (hk : ∀ k : Int, 0 ≤ k → k < g 1 → ¬ k = i → (g (125 + 80 * k) = -6 ∧ 1 ≤ g (126 + 80 * k) ∧ g (126 + 80 * k) ≤ 60 ∧ 0 ≤ g (187 + 80 * k) ∧ g (187 + 80 * k) ≤ 8 ∧ 0 ≤ g (196 + 80 * k) ∧ g (196 + 80 * k) ≤ 8 ∧ (∀ j : Int, 0 ≤ j → j < g (126 + 80 * k) → 0 ≤ g (127 + 80 * k + j) ∧ g (127 + 80 * k + j) ≤ 25) ∧ (∀ j : Int, 0 ≤ j → j < g (187 + 80 * k) → 0 ≤ g (188 + 80 * k + j) ∧ g (188 + 80 * k + j) ≤ 25) ∧ (∀ j : Int, 0 ≤ j → j < g (196 + 80 * k) → 0 ≤ g (197 + 80 * k + j) ∧ g (197 + 80 * k + j) ≤ 25)) ∨ (0 ≤ g (125 + 80 * k) ∧ g (125 + 80 * k) < k))
    (hi : 0 ≤ i ∧ i < g 1) (hab : 0 ≤ a ∧ a ≤ b ∧ b < g 0) : PInv (anG g i a b) := by
  have e0 : anG g i a b 0 = g 0 := anG_lo hi.1 (by omega)
  have e1 : anG g i a b 1 = g 1 := anG_lo hi.1 (by omega)
  have e2 : anG g i a b 2 = g 2 := anG_lo hi.1 (by omega)
  have e3 : anG g i a b 3 = g 3 := anG_lo hi.1 (by omega)
  have e4 : anG g i a b 4 = g 4 := anG_lo hi.1 (by omega)
  obtain ⟨t1, t2, t3, t4⟩ := anG_to (g := g) (i := i) (a := a) (b := b) hi.1
  have hah : 0 ≤ aheadN g a ∧ aheadN g a ≤ 8 ∧ aheadN g a ≤ a := by unfold aheadN; split <;> omega
  have hbh : 0 ≤ behindN g b ∧ behindN g b ≤ 8 ∧ behindN g b ≤ g 0 - 1 - b := by unfold behindN; split <;> omega
  refine ⟨by omega, by omega, by omega, by omega, by omega, by omega, by omega, by omega, by omega, by omega, fun j j0 j1 => ?_, fun j j0 j1 => ?_, fun k k0 k1 => ?_⟩
  · rw [anG_lo hi.1 (by omega)]; exact hl j j0 (by omega)
  · rw [anG_own j0 (by omega)]
    obtain ⟨o1, o2, o3⟩ := ho j j0 (by omega)
    have hto : ∀ k : Int, 0 ≤ k → (k = i ∨ g (125 + 80 * k) = -6) → anG g i a b (125 + 80 * k) = -6 := fun k k0 hk2 => by
      by_cases z : k = i
      · rw [z]; exact t1
      · rw [anG_oth hi.1 (by omega) (by omega)]; omega
    by_cases c : a ≤ j ∧ j ≤ b
    · rw [if_pos c]
      have hb := addB_bd ⟨o1, o2⟩ (i := i) (by omega)
      refine ⟨hb.1, hb.2, fun k hkk => ?_⟩
      obtain ⟨q1, q2, q3⟩ := hkk
      rw [btt_addB hi.1 q1, Bool.or_eq_true] at q3
      rcases q3 with q | q
      · have := o3 k ⟨q1, q2, q⟩
        exact ⟨by omega, hto k q1 this.2⟩
      · have := of_decide_eq_true q
        exact ⟨by omega, hto k q1 (Or.inl this.symm)⟩
    · rw [if_neg c]
      refine ⟨o1, o2, fun k hkk => ?_⟩
      have := o3 k hkk
      exact ⟨by omega, hto k hkk.1 this.2⟩
  · by_cases z : k = i
    · rw [z, t1, t2, t3, t4]
      refine Or.inl ⟨rfl, by omega, by omega, by omega, by omega, by omega, by omega, fun j j0 j1 => ?_, fun j j0 j1 => ?_, fun j j0 j1 => ?_⟩
      · rw [anG_wd hi.1 j0 (by omega)]; exact hl _ (by omega) (by omega)
      · rw [anG_ah hi.1 j0 (by omega)]; exact hl _ (by omega) (by omega)
      · rw [anG_bh hi.1 j0 (by omega)]; exact hl _ (by omega) (by omega)
    · have q := hk k k0 (by omega) z
      have ee : ∀ c : Int, 125 ≤ c → (c < 125 + 80 * i ∨ 205 + 80 * i ≤ c) → anG g i a b c = g c := fun c c0 c1 => anG_oth hi.1 c0 c1
      rw [ee (125 + 80 * k) (by omega) (by omega), ee (126 + 80 * k) (by omega) (by omega), ee (187 + 80 * k) (by omega) (by omega), ee (196 + 80 * k) (by omega) (by omega)]
      rcases q with ⟨q0, q1, q2, q3, q4, q5, q6, q7, q8, q9⟩ | q
      · refine Or.inl ⟨q0, q1, q2, q3, q4, q5, q6, fun j j0 j1 => ?_, fun j j0 j1 => ?_, fun j j0 j1 => ?_⟩
        · rw [ee _ (by omega) (by omega)]; exact q7 j j0 j1
        · rw [ee _ (by omega) (by omega)]; exact q8 j j0 j1
        · rw [ee _ (by omega) (by omega)]; exact q9 j j0 j1
      · exact Or.inr q
theorem PInv.nt' {g : Int → Int} (h : PInv g) (a b : Int) : PInv (ntG g a b) := by
  unfold ntG
  by_cases z : ntR g a b < 0
  · rw [if_pos z]; exact h
  · rw [if_neg z]
    have h1 : ¬ perr g a b < 0 ∧ ¬ 16 ≤ g 1 := by
      unfold ntR at z
      by_cases q : perr g a b < 0
      · rw [if_pos q] at z; exact absurd q z
      · rw [if_neg q] at z
        by_cases q2 : 16 ≤ g 1
        · rw [if_pos q2] at z; omega
        · exact ⟨q, q2⟩
    have hab := perr_ok h1.1
    have hn := h.nums
    obtain ⟨-, -, -, -, -, -, -, -, -, -, h11, h12, h13⟩ := h
    have u1 : up g 1 (g 1 + 1) 1 = g 1 + 1 := if_pos rfl
    have ux : ∀ j : Int, ¬ j = 1 → up g 1 (g 1 + 1) j = g j := fun j hj => if_neg hj
    refine PInv.an ?_ (fun j j0 j1 => ?_) (fun j j0 j1 => ?_) (fun k k0 k1 kn => ?_) (by rw [u1]; omega) (by rw [ux 0 (by omega)]; omega)
    · rw [u1, ux 0 (by omega), ux 2 (by omega), ux 3 (by omega), ux 4 (by omega)]; omega
    · rw [ux 0 (by omega)] at j1
      rw [ux _ (by omega)]
      exact h11 j j0 j1
    · rw [ux 0 (by omega)] at j1
      rw [ux _ (by omega), u1]
      have q := h12 j j0 j1
      exact ⟨q.1, q.2.1, fun k hk => by have := q.2.2 k hk; have := hk.1; rw [ux _ (by omega)]; omega⟩
    · rw [u1] at k1
      rw [ux _ (by omega), ux _ (by omega), ux _ (by omega), ux _ (by omega)]
      have q := h13 k k0 (by omega)
      rcases q with ⟨q0, q1, q2, q3, q4, q5, q6, q7, q8, q9⟩ | q
      · exact Or.inl ⟨q0, q1, q2, q3, q4, q5, q6, fun j j0 j1 => by rw [ux _ (by omega)]; exact q7 j j0 j1, fun j j0 j1 => by rw [ux _ (by omega)]; exact q8 j j0 j1, fun j j0 j1 => by rw [ux _ (by omega)]; exact q9 j j0 j1⟩
      · exact Or.inr q
theorem PInv.rc {g : Int → Int} (h : PInv g) (n : Int) : PInv (rcG g n) := by
  unfold rcG
  by_cases z : rcR g n < 0
  · rw [if_pos z]; exact h
  · rw [if_neg z]
    unfold rcR at z
    by_cases c1 : ¬ isN g n
    · rw [if_pos c1] at z; omega
    · rw [if_neg c1] at z
      by_cases c2 : ¬ stt g n = 1
      · rw [if_pos c2] at z; omega
      · rw [if_neg c2] at z
        by_cases c3 : (bstN g n).2.2 = 0
        · rw [if_pos c3] at z; omega
        · have hin := Decidable.not_not.mp c1
          have ht : tgt g n = -6 := by
            have c4 : stt g n = 1 := Decidable.not_not.mp c2
            unfold stt at c4
            split at c4
            · omega
            · next y => exact Decidable.not_not.mp y
          have hb := bst_bd h hin.1 hin.2 ht
          have hb2 := hb.2.2.2 (by omega)
          have hn := h.nums
          obtain ⟨-, -, -, -, -, -, -, -, -, -, h11, h12, h13⟩ := h
          exact PInv.an hn h11 (fun j j0 j1 => by have q := h12 j j0 j1; exact ⟨q.1, q.2.1, fun k hk => by have := q.2.2 k hk; omega⟩) (fun k k0 k1 _ => h13 k k0 k1) hin (by omega)
theorem PInv.rp {g : Int → Int} (h : PInv g) (n : Int) : PInv (rpG g n) := by
  unfold rpG
  by_cases z : rpR g n < 0
  · rw [if_pos z]; exact h
  · rw [if_neg z]
    have h1 : isN g n ∧ ¬ 16 ≤ g 1 := by
      unfold rpR at z
      by_cases q : ¬ isN g n
      · rw [if_pos q] at z; omega
      · rw [if_neg q] at z
        by_cases q2 : 16 ≤ g 1
        · rw [if_pos q2] at z; omega
        · exact ⟨Decidable.not_not.mp q, q2⟩
    have hn := h.nums
    obtain ⟨-, -, -, -, -, -, -, -, -, -, h11, h12, h13⟩ := h
    obtain ⟨⟨i0, i1⟩, hm⟩ := h1
    generalize hG : up (up (up g (126 + 80 * g 1) 0) (125 + 80 * g 1) n) 1 (g 1 + 1) = G
    have u1 : G 1 = g 1 + 1 := by rw [← hG]; exact if_pos rfl
    have ut : G (125 + 80 * g 1) = n := by rw [← hG]; exact (if_neg (by omega)).trans (if_pos rfl)
    have ux : ∀ j : Int, ¬ j = 1 → ¬ j = 125 + 80 * g 1 → ¬ j = 126 + 80 * g 1 → G j = g j := fun j a b c => by rw [← hG]; exact (if_neg a).trans ((if_neg b).trans (if_neg c))
    have x0 := ux 0 (by omega) (by omega) (by omega)
    have x2 := ux 2 (by omega) (by omega) (by omega)
    have x3 := ux 3 (by omega) (by omega) (by omega)
    have x4 := ux 4 (by omega) (by omega) (by omega)
    refine ⟨by omega, by omega, by omega, by omega, by omega, by omega, by omega, by omega, by omega, by omega, fun j j0 j1 => ?_, fun j j0 j1 => ?_, fun k k0 k1 => ?_⟩
    · rw [ux _ (by omega) (by omega) (by omega)]; exact h11 j j0 (by omega)
    · rw [ux _ (by omega) (by omega) (by omega)]
      have q := h12 j j0 (by omega)
      exact ⟨q.1, q.2.1, fun k hk => by have q2 := q.2.2 k hk; have := hk.1; rw [ux (125 + 80 * k) (by omega) (by omega) (by omega)]; omega⟩
    · by_cases c : k = g 1
      · rw [c, ut]; exact Or.inr ⟨i0, i1⟩
      · have ee : ∀ c : Int, 125 + 80 * k ≤ c → c < 205 + 80 * k → G c = g c := fun c c0 c1 => ux c (by omega) (by omega) (by omega)
        rw [ee (125 + 80 * k) (by omega) (by omega), ee (126 + 80 * k) (by omega) (by omega), ee (187 + 80 * k) (by omega) (by omega), ee (196 + 80 * k) (by omega) (by omega)]
        rcases h13 k k0 (by omega) with ⟨q0, q1, q2, q3, q4, q5, q6, q7, q8, q9⟩ | q
        · exact Or.inl ⟨q0, q1, q2, q3, q4, q5, q6, fun j j0 j1 => by rw [ee _ (by omega) (by omega)]; exact q7 j j0 j1, fun j j0 j1 => by rw [ee _ (by omega) (by omega)]; exact q8 j j0 j1, fun j j0 j1 => by rw [ee _ (by omega) (by omega)]; exact q9 j j0 j1⟩
        · exact Or.inr q
theorem rm_lo {g : Int → Int} {k j : Int} (h : ¬ j = 1) (h2 : j < 65) : rmG g k j = g j := by unfold rmG; rw [if_neg h, if_neg (by omega), if_neg (by omega)]
theorem rm_own {g : Int → Int} {k j : Int} (h : 0 ≤ j) (h2 : j < 60) : rmG g k (65 + j) = dropB (g (65 + j)) k := by unfold rmG; rw [if_neg (by omega), if_pos (by omega)]
theorem rm_in {g : Int → Int} {k c : Int} (h : 125 ≤ c) (h2 : c < 125 + 80 * k) : rmG g k c = g c := by unfold rmG; rw [if_neg (by omega), if_neg (by omega), if_pos h, if_neg (by omega)]
theorem rm_up {g : Int → Int} {k c : Int} (h : 125 ≤ c) (h2 : 125 + 80 * k ≤ c) (h3 : ¬ (c - 125) % 80 = 0) : rmG g k c = g (c + 80) := by unfold rmG; rw [if_neg (by omega), if_neg (by omega), if_pos h, if_pos h2, if_neg (fun z => h3 z.1)]
theorem rm_to {g : Int → Int} {k i : Int} (h : 0 ≤ k) (h2 : k ≤ i) : rmG g k (125 + 80 * i) = if k < g (125 + 80 * (i + 1)) then g (125 + 80 * (i + 1)) - 1 else g (125 + 80 * (i + 1)) := by
  unfold rmG
  rw [if_neg (by omega), if_neg (by omega), if_pos (by omega), if_pos (by omega), show 125 + 80 * i + 80 = 125 + 80 * (i + 1) by omega]
  by_cases c : k < g (125 + 80 * (i + 1))
  · rw [if_pos ⟨by omega, c⟩, if_pos c]
  · rw [if_neg (fun z => c z.2), if_neg c]
theorem PInv.rm {g : Int → Int} (h : PInv g) {k : Int} (hk : 0 ≤ k ∧ k < g 1) (hr : ∀ i : Int, 0 ≤ i → i < g 1 → ¬ tgt g i = k) : PInv (rmG g k) := by
  have hn := h.nums
  obtain ⟨-, -, -, -, -, -, -, -, -, -, h11, h12, h13⟩ := h
  have x1 : rmG g k 1 = g 1 - 1 := by unfold rmG; exact if_pos rfl
  have x0 : rmG g k 0 = g 0 := rm_lo (by omega) (by omega)
  have x2 : rmG g k 2 = g 2 := rm_lo (by omega) (by omega)
  have x3 : rmG g k 3 = g 3 := rm_lo (by omega) (by omega)
  have x4 : rmG g k 4 = g 4 := rm_lo (by omega) (by omega)
  refine ⟨by omega, by omega, by omega, by omega, by omega, by omega, by omega, by omega, by omega, by omega, fun j j0 j1 => ?_, fun j j0 j1 => ?_, fun i i0 i1 => ?_⟩
  · rw [rm_lo (by omega) (by omega)]; exact h11 j j0 (by omega)
  · rw [rm_own j0 (by omega)]
    have q := h12 j j0 (by omega)
    have hb := dropB_bd (k := k) ⟨q.1, q.2.1⟩
    refine ⟨hb.1, hb.2, fun i hi => ?_⟩
    obtain ⟨b0, b1, b2⟩ := hi
    rw [btt_dropB ⟨q.1, q.2.1⟩ hk.1 b0] at b2
    by_cases c : i < k
    · rw [if_pos c] at b2
      have := q.2.2 i ⟨b0, b1, b2⟩
      rw [rm_in (c := 125 + 80 * i) (by omega) (by omega)]
      omega
    · rw [if_neg c] at b2
      have hlt := btt_lt ⟨q.1, q.2.1⟩ b2
      have := q.2.2 (i + 1) ⟨by omega, hlt, b2⟩
      rw [rm_to hk.1 (by omega), if_neg (by omega)]
      omega
  · by_cases c : i < k
    · have ee : ∀ c : Int, 125 + 80 * i ≤ c → c < 205 + 80 * i → rmG g k c = g c := fun c c0 c1 => rm_in (by omega) (by omega)
      rw [ee (125 + 80 * i) (by omega) (by omega), ee (126 + 80 * i) (by omega) (by omega), ee (187 + 80 * i) (by omega) (by omega), ee (196 + 80 * i) (by omega) (by omega)]
      rcases h13 i i0 (by omega) with ⟨q0, q1, q2, q3, q4, q5, q6, q7, q8, q9⟩ | q
      · exact Or.inl ⟨q0, q1, q2, q3, q4, q5, q6, fun j j0 j1 => by rw [ee _ (by omega) (by omega)]; exact q7 j j0 j1, fun j j0 j1 => by rw [ee _ (by omega) (by omega)]; exact q8 j j0 j1, fun j j0 j1 => by rw [ee _ (by omega) (by omega)]; exact q9 j j0 j1⟩
      · exact Or.inr q
    · have ee : ∀ r : Int, 0 < r → r < 80 → rmG g k (125 + 80 * i + r) = g (125 + 80 * (i + 1) + r) := fun r r0 r1 => by
        rw [rm_up (by omega) (by omega) (by omega), show 125 + 80 * i + r + 80 = 125 + 80 * (i + 1) + r by omega]
      have e1 := ee 1 (by omega) (by omega)
      have e62 := ee 62 (by omega) (by omega)
      have e71 := ee 71 (by omega) (by omega)
      rw [show 125 + 80 * i + 1 = 126 + 80 * i by omega, show 125 + 80 * (i + 1) + 1 = 126 + 80 * (i + 1) by omega] at e1
      rw [show 125 + 80 * i + 62 = 187 + 80 * i by omega, show 125 + 80 * (i + 1) + 62 = 187 + 80 * (i + 1) by omega] at e62
      rw [show 125 + 80 * i + 71 = 196 + 80 * i by omega, show 125 + 80 * (i + 1) + 71 = 196 + 80 * (i + 1) by omega] at e71
      rw [rm_to hk.1 (by omega), e1, e62, e71]
      have hrr := hr (i + 1) (by omega) (by omega)
      rcases h13 (i + 1) (by omega) (by omega) with ⟨q0, q1, q2, q3, q4, q5, q6, q7, q8, q9⟩ | q
      · rw [if_neg (by omega)]
        refine Or.inl ⟨q0, q1, q2, q3, q4, q5, q6, fun j j0 j1 => ?_, fun j j0 j1 => ?_, fun j j0 j1 => ?_⟩
        · rw [show 127 + 80 * i + j = 125 + 80 * i + (2 + j) by omega, ee _ (by omega) (by omega), show 125 + 80 * (i + 1) + (2 + j) = 127 + 80 * (i + 1) + j by omega]; exact q7 j j0 j1
        · rw [show 188 + 80 * i + j = 125 + 80 * i + (63 + j) by omega, ee _ (by omega) (by omega), show 125 + 80 * (i + 1) + (63 + j) = 188 + 80 * (i + 1) + j by omega]; exact q8 j j0 j1
        · rw [show 197 + 80 * i + j = 125 + 80 * i + (72 + j) by omega, ee _ (by omega) (by omega), show 125 + 80 * (i + 1) + (72 + j) = 197 + 80 * (i + 1) + j by omega]; exact q9 j j0 j1
      · have hrr2 : ¬ g (125 + 80 * (i + 1)) = k := hrr
        right
        split <;> omega
/-- a family's members above one that is still there are gone -/
def Clo (m n : Int) (c : Nat) (g : Int → Int) : Prop := ∀ i : Int, 0 ≤ i → i < g 1 → n ≤ tgt g i → tgt g i < n + c → isin m (tgt g i) → i < n + c ∧ isin m i
theorem PInv.dps {m n : Int} (hn : 0 ≤ n) : ∀ (c : Nat) {g : Int → Int}, PInv g → n + c ≤ g 1 → Clo m n c g → PInv (drp m c n g)
  | 0, _, h, _, _ => h
  | c + 1, g, h, hc, hq => by
    simp only [drp]
    have hnu := h.nums
    by_cases z : isin m (n + c)
    · rw [if_pos z]
      have x1 : rmG g (n + c) 1 = g 1 - 1 := by unfold rmG; exact if_pos rfl
      refine PInv.dps hn c (h.rm (by omega) (fun i i0 i1 e => ?_)) (by omega) (fun i i0 i1 t0 t1 t2 => ?_)
      · have := hq i i0 i1 (by omega) (by omega) (by rw [e]; exact z)
        have := h.tg i0 i1
        omega
      · by_cases y : i < n + c
        · have e : tgt (rmG g (n + c)) i = tgt g i := rm_in (by omega) (by omega)
          rw [e] at t0 t1 t2
          exact ⟨y, (hq i i0 (by omega) t0 (by omega) t2).2⟩
        · have e : tgt (rmG g (n + c)) i = if n + c < tgt g (i + 1) then tgt g (i + 1) - 1 else tgt g (i + 1) := rm_to (by omega) (by omega)
          have e2 : tgt (rmG g (n + c)) i = tgt g (i + 1) := by rw [e]; rw [e] at t1; split at t1; omega; exact if_neg (by assumption)
          rw [e2] at t0 t1 t2
          have := hq (i + 1) (by omega) (by omega) t0 (by omega) t2
          omega
    · rw [if_neg z]
      refine PInv.dps hn c h (by omega) (fun i i0 i1 t0 t1 t2 => ?_)
      have q := hq i i0 i1 t0 (by omega) t2
      have : ¬ i = n + c := fun e => z (by rw [← e]; exact q.2)
      exact ⟨by omega, q.2⟩
theorem fam_bit {g : Int → Int} {n : Int} (hn : 0 ≤ n) (k : Nat) : ∀ (d : Nat) (j : Int), 0 ≤ j → j ≤ n + k → btt (fam g n (k + d) : Int) j = btt (fam g n k : Int) j
  | 0, _, _, _ => rfl
  | d + 1, j, j0, j1 => by
    rw [← fam_bit hn k d j j0 j1, ← Nat.add_assoc]
    by_cases c : isin (fam g n (k + d) : Int) (tgt g (n + 1 + ((k + d : Nat) : Int)))
    · rw [fam_yes c]
      unfold btt
      rw [Int.toNat_natCast, Int.toNat_natCast, Nat.testBit_or, Nat.testBit_two_pow_of_ne (by omega), Bool.or_false]
    · rw [fam_no c]
theorem fam_clo {g : Int → Int} (h : PInv g) {n : Int} (hn : 0 ≤ n ∧ n < g 1) : Clo (famS g n) n (g 1 - n).toNat g := by
  intro i i0 i1 t0 t1 t2
  have hnu := h.nums
  have ht := h.tg i0 i1
  refine ⟨by omega, i0, by omega, ?_⟩
  obtain ⟨k, hk⟩ : ∃ k : Nat, i = n + 1 + (k : Int) := ⟨(i - n - 1).toNat, by omega⟩
  obtain ⟨d, hd⟩ : ∃ d : Nat, (g 1 - 1 - n).toNat = k + 1 + d := ⟨(g 1 - 1 - n).toNat - (k + 1), by omega⟩
  have e1 : famS g n = ((fam g n (k + 1 + d) : Nat) : Int) := by unfold famS; rw [hd]
  rw [e1] at t2 ⊢
  rw [fam_bit hn.1 (k + 1) d i i0 (by omega)]
  have t3 : btt (fam g n k : Int) (tgt g i) = true := by
    have := t2.2.2
    rw [show k + 1 + d = k + (1 + d) by omega, fam_bit hn.1 k (1 + d) (tgt g i) t2.1 (by omega)] at this
    exact this
  have c : isin (fam g n k : Int) (tgt g (n + 1 + k)) := by rw [← hk]; exact ⟨t2.1, t2.2.1, t3⟩
  rw [fam_yes c]
  unfold btt
  rw [Int.toNat_natCast, Nat.testBit_or, show i.toNat = (n + 1 + (k : Int)).toNat by omega, Nat.testBit_two_pow_self, Bool.or_true]
theorem PInv.dp {g : Int → Int} (h : PInv g) (n : Int) : PInv (dpG g n) := by
  unfold dpG
  by_cases z : ¬ isN g n
  · rw [if_pos z]; exact h
  · rw [if_neg z]
    have hin := Decidable.not_not.mp z
    exact PInv.dps hin.1 _ h (by omega) (fam_clo h hin)


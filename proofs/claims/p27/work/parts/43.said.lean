/-! what is told of a note, and of the letters -/
theorem rot_self {g : Int → Int} {n : Int} (h : tgt g n = -6) : rot g n = n := by
  unfold rot
  have e : dep g 16 n = 0 := (show dep g 16 n = if tgt g n = -6 then 0 else dep g 15 (tgt g n) + 1 from rfl).trans (if_pos h)
  rw [e]; rfl
theorem dep_s (g : Int → Int) (f : Nat) (o : Int) : dep g (f + 1) o = if tgt g o = -6 then 0 else dep g f (tgt g o) + 1 := rfl
theorem dep_mono (g : Int → Int) : ∀ (f : Nat) (o : Int), dep g f o ≤ dep g (f + 1) o
  | 0, o => Nat.zero_le _
  | f + 1, o => by
    have ih := dep_mono g f (tgt g o)
    rw [dep_s g f o, dep_s g (f + 1) o]
    by_cases c : tgt g o = -6
    · rw [if_pos c, if_pos c]; exact Nat.le_refl _
    · rw [if_neg c, if_neg c]; omega
theorem dep_up (g : Int → Int) : ∀ (f : Nat) (o : Int), dep g f o < f → dep g (f + 1) o = dep g f o
  | 0, o, h => absurd h (Nat.not_lt_zero _)
  | f + 1, o, h => by
    rw [dep_s g f o] at h
    rw [dep_s g f o, dep_s g (f + 1) o]
    by_cases c : tgt g o = -6
    · rw [if_pos c, if_pos c]
    · rw [if_neg c] at h
      rw [if_neg c, if_neg c, dep_up g f (tgt g o) (by omega)]
theorem rot_rep {g : Int → Int} (hI : PInv g) {n : Int} (hn : isN g n) (h : ¬ tgt g n = -6) : rot g n = rot g (tgt g n) ∧ 0 < dpt g n ∧ dpt g n ≤ 16 := by
  have hnu := hI.nums
  have t := hI.tg hn.1 hn.2
  have hb := dep_bd hI (n := tgt g n) ⟨by omega, by omega⟩
  have e1 : dep g 16 n = dep g 15 (tgt g n) + 1 := (dep_s g 15 n).trans (if_neg h)
  have e2 : dep g 15 (tgt g n) ≤ dep g 16 (tgt g n) := dep_mono g 15 (tgt g n)
  have e3 : dep g 16 (tgt g n) = dep g 15 (tgt g n) := dep_up g 15 _ (by omega)
  have e4 := dep_le g 16 n
  unfold rot dpt
  rw [e1] at e4 ⊢
  rw [e3]
  exact ⟨rfl, by omega, by omega⟩
theorem fam_lt {g : Int → Int} {n : Int} (hn : 0 ≤ n) : ∀ k : Nat, fam g n k < 2 ^ (n.toNat + k + 1)
  | 0 => by
    show 2 ^ n.toNat < 2 ^ (n.toNat + 0 + 1)
    exact Nat.pow_lt_pow_right (by decide) (by omega)
  | k + 1 => by
    have ih := fam_lt (g := g) hn k
    have h1 : 2 ^ (n.toNat + k + 1) < 2 ^ (n.toNat + (k + 1) + 1) := Nat.pow_lt_pow_right (by decide) (by omega)
    have h2 : 2 ^ (n + 1 + (k : Int)).toNat < 2 ^ (n.toNat + (k + 1) + 1) := Nat.pow_lt_pow_right (by decide) (by omega)
    simp only [fam]
    split
    · exact Nat.or_lt_two_pow (Nat.lt_trans ih h1) h2
    · exact Nat.lt_trans ih h1
theorem popc_fam {g : Int → Int} (hI : PInv g) {n : Int} (hn : isN g n) : 1 ≤ popc (famS g n) ∧ popc (famS g n) ≤ g 1 := by
  have hnu := hI.nums
  obtain ⟨n0, n1⟩ := hn
  have hb0 : btt (famS g n) n = true := by
    have e := fam_bit (g := g) n0 0 (g 1 - 1 - n).toNat n n0 (by omega)
    rw [show 0 + (g 1 - 1 - n).toNat = (g 1 - 1 - n).toNat by omega] at e
    refine e.trans ?_
    unfold btt
    show (((2 ^ n.toNat : Nat) : Int).toNat).testBit n.toNat = true
    rw [Int.toNat_natCast, Nat.testBit_two_pow_self]
  refine ⟨cnt_pos (i := n) n0 (by omega) hb0, ?_⟩
  have hl := fam_lt (g := g) n0 (g 1 - 1 - n).toNat
  rw [show n.toNat + (g 1 - 1 - n).toNat + 1 = (g 1).toNat by omega] at hl
  refine Int.le_trans (cnt_mono (Q := fun j => decide (0 ≤ j ∧ j ≤ g 1 - 1)) (fun j j0 j1 q => decide_eq_true ⟨j0, ?_⟩)) (Int.le_trans (cnt_range 0 (g 1 - 1) (by omega) (by omega) 16).1 (by omega))
  refine Decidable.byContradiction (fun z => ?_)
  have h1 : fam g n (g 1 - 1 - n).toNat < 2 ^ j.toNat := Nat.lt_of_lt_of_le hl (Nat.pow_le_pow_right (by decide) (by omega))
  have h2 : btt (famS g n) j = false := by
    unfold btt famS
    rw [Int.toNat_natCast]
    exact Nat.testBit_lt_two_pow h1
  have q2 : btt (famS g n) j = true := q
  rw [h2] at q2; cases q2
/-- no bit of a letter's set is above those of the notes -/
theorem ow_lt {g : Int → Int} (hI : PInv g) {i : Int} (i0 : 0 ≤ i) (i1 : i < g 0) : (OW g i).toNat < 2 ^ (g 1).toNat := by
  have hnu := hI.nums
  have ho := hI.own i i0 i1
  refine Nat.lt_pow_two_of_testBit _ (fun j hj => ?_)
  refine Bool.eq_false_iff.mpr (fun q => ?_)
  have q1 : btt (OW g i) (j : Int) = true := by
    unfold btt
    rw [Int.toNat_natCast]; exact q
  have q2 := btt_lt ho q1
  obtain ⟨-, -, -, -, -, -, -, -, -, -, h11, h12, h13⟩ := hI
  have := ((h12 i i0 i1).2.2 (j : Int) ⟨by omega, q2, q1⟩).1
  omega
/-- all sets together -/
def orA (g : Int → Int) : Nat → Nat
  | 0 => 0
  | k + 1 => orA g k ||| (OW g (k : Int)).toNat
theorem orA_bd {g : Int → Int} (hI : PInv g) : ∀ k : Nat, (k : Int) ≤ g 0 → orA g k < 65536
  | 0, _ => by show 0 < 65536; omega
  | k + 1, h => by
    have ho := hI.own (k : Int) (by omega) (by omega)
    exact or_lt (orA_bd hI k (by omega)) (by omega)
theorem orA_bit (g : Int → Int) (n : Int) : ∀ k : Nat, btt (orA g k : Int) n = true ↔ 0 < cnt (fun i => btt (OW g i) n) k
  | 0 => by
    show btt 0 n = true ↔ (0 : Int) < 0
    rw [btt_0]
    exact ⟨fun h => absurd h (by decide), fun h => absurd h (by decide)⟩
  | k + 1 => by
    have ih := orA_bit g n k
    have hb := cnt_bd (fun i => btt (OW g i) n) k
    have e : btt (orA g (k + 1) : Int) n = (btt (orA g k : Int) n || btt (OW g (k : Int)) n) := by
      unfold btt
      show ((orA g k ||| (OW g (k : Int)).toNat : Nat) : Int).toNat.testBit n.toNat = _
      rw [Int.toNat_natCast, Int.toNat_natCast, Nat.testBit_or]
    rw [e, Bool.or_eq_true, ih]
    by_cases c : btt (OW g (k : Int)) n = true
    · rw [cnt_yes (P := fun i => btt (OW g i) n) c]
      exact ⟨fun _ => by omega, fun _ => Or.inr c⟩
    · rw [cnt_no (P := fun i => btt (OW g i) n) c]
      exact ⟨fun h => h.elim id (fun h => absurd h c), fun h => Or.inl h⟩
theorem orA_said {g : Int → Int} (hI : PInv g) {n : Int} (hn : isN g n) : btt (orA g (g 0).toNat : Int) n = true ↔ stt g n = 0 := by
  have hnu := hI.nums
  rw [orA_bit, stt_0 hI, ntL_cnt]
  have e : cnt (fun i => btt (OW g i) n) (g 0).toNat = cnt (ownb (OW g) n) (g 0).toNat := cnt_congr (fun i i0 i1 => by
    show btt (OW g i) n = decide (0 ≤ n ∧ n < 16 ∧ btt (OW g i) n = true)
    by_cases c : btt (OW g i) n = true
    · rw [c]; exact (decide_eq_true ⟨hn.1, by omega, rfl⟩).symm
    · rw [decide_eq_false (fun q => c q.2.2)]; exact Bool.eq_false_iff.mpr c)
  rw [e]
section
variable {g : Int → Int} {k : Int}
theorem of_0 (h : isN g k) : ofR g k 0 = stt g k := (if_neg (fun z => z h)).trans (if_pos rfl)
theorem of_1 (h : isN g k) : ofR g k 1 = ntF g (rot g k) := (if_neg (fun z => z h)).trans ((if_neg (by decide)).trans (if_pos rfl))
theorem of_2 (h : isN g k) : ofR g k 2 = ntE g (rot g k) := (if_neg (fun z => z h)).trans ((if_neg (by decide)).trans ((if_neg (by decide)).trans (if_pos rfl)))
theorem of_3 (h : isN g k) (t : tgt g k = -6) : ofR g k 3 = g (126 + 80 * k) := (if_neg (fun z => z h)).trans ((if_neg (by decide)).trans ((if_neg (by decide)).trans ((if_neg (by decide)).trans ((if_pos rfl).trans (if_neg (fun z => z t))))))
theorem of_4 (h : isN g k) (t : tgt g k = -6) : ofR g k 4 = ntL g k := (if_neg (fun z => z h)).trans ((if_neg (by decide)).trans ((if_neg (by decide)).trans ((if_neg (by decide)).trans ((if_neg (by decide)).trans ((if_pos rfl).trans (if_neg (fun z => z t)))))))
theorem of_5 (h : isN g k) (t : tgt g k = -6) : ofR g k 5 = ntP g k := (if_neg (fun z => z h)).trans ((if_neg (by decide)).trans ((if_neg (by decide)).trans ((if_neg (by decide)).trans ((if_neg (by decide)).trans ((if_neg (by decide)).trans ((if_pos rfl).trans (if_neg (fun z => z t))))))))
theorem of_6 (h : isN g k) : ofR g k 6 = tgt g k := (if_neg (fun z => z h)).trans ((if_neg (by decide)).trans ((if_neg (by decide)).trans ((if_neg (by decide)).trans ((if_neg (by decide)).trans ((if_neg (by decide)).trans ((if_neg (by decide)).trans (if_pos rfl)))))))
theorem of_7 (h : isN g k) : ofR g k 7 = popc (famS g k) - 1 := (if_neg (fun z => z h)).trans ((if_neg (by decide)).trans ((if_neg (by decide)).trans ((if_neg (by decide)).trans ((if_neg (by decide)).trans ((if_neg (by decide)).trans ((if_neg (by decide)).trans ((if_neg (by decide)).trans (if_pos rfl))))))))
theorem of_8 (h : isN g k) : ofR g k 8 = dpt g k := (if_neg (fun z => z h)).trans ((if_neg (by decide)).trans ((if_neg (by decide)).trans ((if_neg (by decide)).trans ((if_neg (by decide)).trans ((if_neg (by decide)).trans ((if_neg (by decide)).trans ((if_neg (by decide)).trans ((if_neg (by decide)).trans (if_pos rfl)))))))))
/-- of a note: whether it stands -/
theorem stt_t (h : ¬ stt g k = 2) : tgt g k = -6 := by
  unfold stt at h
  split at h
  · omega
  · next z => exact Decidable.not_not.mp z
theorem sd_any (hI : PInv g) (h : isN g k) : 0 ≤ ofR g k 0 ∧ ofR g k 0 ≤ 2 ∧ 0 ≤ ofR g k 7 ∧ ofR g k 7 < g 1 ∧ ofR g k 7 ≤ 15 ∧ (1 < ntP g k → ofR g k 0 = 0) := by
  have hnu := hI.nums
  have hp := popc_fam hI h
  have hs := stt_all g k
  have hb := nt_bd g k
  have h0 := stt_0 hI k
  rw [of_0 h, of_7 h]
  refine ⟨by omega, by omega, by omega, by omega, by omega, fun q => h0.mpr (by omega)⟩
theorem sd_stand (hI : PInv g) (hQ : Qn g) (h : isN g k) (hs : ofR g k 0 = 0) : 0 ≤ ofR g k 1 ∧ ofR g k 1 ≤ ofR g k 2 ∧ ofR g k 2 < g 0 ∧ ofR g k 6 = -6 ∧ ofR g k 4 ≤ ofR g k 3 ∧ ofR g k 3 ≤ 60 ∧ 1 ≤ ofR g k 5 ∧ ofR g k 5 ≤ ofR g k 4 ∧ ofR g k 2 - ofR g k 1 < ofR g k 4 ∧ coR g k 0 = -5 ∧ (1 < ofR g k 5 ∨ ofR g k 4 = ofR g k 2 - ofR g k 1 + 1) ∧ ofR g k 5 = ntP g k ∧ tgt g k = -6 := by
  have hnu := hI.nums
  rw [of_0 h] at hs
  have ht := stt_t (g := g) (k := k) (by omega)
  have h0 := (stt_0 hI k).mp hs
  have hb := nt_bd g k
  have hc := sc_bd (ownb (OW g) k) (g 0).toNat
  have h1 := (sc_one (ownb (OW g) k) (g 0).toNat).2
  have hq := hQ k h.1 h.2 ht
  have hw := hI.nt h.1 h.2 ht
  rw [of_1 h, of_2 h, of_6 h, of_4 h ht, of_3 h ht, of_5 h ht, rot_self ht]
  have c1 : coR g k 0 = -5 := (if_neg (fun z => z h)).trans ((if_neg (fun z => z (by decide))).trans (if_pos (by omega)))
  have f4 : ntL g k = scL (ownb (OW g) k) (g 0).toNat := rfl
  have f1 : ntF g k = scE (ownb (OW g) k) (g 0).toNat - scM (ownb (OW g) k) (g 0).toNat + 1 := if_neg (by omega)
  have f2 : ntE g k = scE (ownb (OW g) k) (g 0).toNat := rfl
  have f3 : ntP g k = scP (ownb (OW g) k) (g 0).toNat := rfl
  refine ⟨by omega, by omega, by omega, ht, hq, by omega, by omega, by omega, by omega, c1, ?_, rfl, ht⟩
  by_cases c : 1 < ntP g k
  · exact Or.inl c
  · have := h1 (by omega)
    exact Or.inr (by omega)
/-- it stands at its own letters -/
theorem sd_own (hI : PInv g) (h : isN g k) (hs : ofR g k 0 = 0) {p : Int} (h1 : ofR g k 1 ≤ p) (h2 : p ≤ ofR g k 2) : btt (OW g p) k = true := by
  have hnu := hI.nums
  rw [of_0 h] at hs
  have ht := stt_t (g := g) (k := k) (by omega)
  have h0 := (stt_0 hI k).mp hs
  have hc := sc_bd (ownb (OW g) k) (g 0).toNat
  rw [of_1 h, rot_self ht] at h1
  rw [of_2 h, rot_self ht] at h2
  have f4 : ntL g k = scL (ownb (OW g) k) (g 0).toNat := rfl
  have f1 : ntF g k = scE (ownb (OW g) k) (g 0).toNat - scM (ownb (OW g) k) (g 0).toNat + 1 := if_neg (by omega)
  have f2 : ntE g k = scE (ownb (OW g) k) (g 0).toNat := rfl
  have := (sc_own (ownb (OW g) k) (g 0).toNat).2 p (by omega) (by omega) (by omega)
  exact (of_decide_eq_true this).2.2
theorem sd_orph (hI : PInv g) (h : isN g k) (hs : ofR g k 0 = 1) : ofR g k 1 = -6 ∧ ofR g k 2 = -6 ∧ ofR g k 6 = -6 ∧ ofR g k 4 = 0 ∧ ofR g k 5 = 0 ∧ piR g k 0 = -6 ∧ (coR g k 0 = -6 ↔ coR g k 2 = -6) ∧ -6 ≤ coR g k 0 ∧ coR g k 0 ≤ 60 ∧ -6 ≤ coR g k 2 ∧ coR g k 2 ≤ 60 ∧ tgt g k = -6 ∧ ntP g k = 0 := by
  have hnu := hI.nums
  rw [of_0 h] at hs
  have ht := stt_t (g := g) (k := k) (by omega)
  have h0 := stt_0 hI k
  have hb := nt_bd g k
  have hL : ntL g k = 0 := by omega
  have hf := hb.2.2.2.1 hL
  have hp := (pr_who hI (room := g 4) (by omega) h.1 h.2).mpr hL
  have hbb := bst_bd hI h.1 h.2 ht
  rw [of_1 h, of_2 h, of_6 h, of_4 h ht, of_5 h ht, rot_self ht]
  have p1 : piR g k 0 = (prS g (g 4)).2.1 k := (if_neg (fun z => z h)).trans ((if_neg (fun z => z (Or.inl rfl))).trans (if_pos rfl))
  have c0 : coR g k 0 = if (bstN g k).2.2 = 0 then -6 else (bstN g k).1 := by
    refine (if_neg (fun z => z h)).trans ((if_neg (fun z => z (by decide))).trans ((if_neg (fun z => z hs)).trans ?_))
    rw [if_pos rfl]
  have c2 : coR g k 2 = if (bstN g k).2.2 = 0 then -6 else (bstN g k).2.2 := by
    refine (if_neg (fun z => z h)).trans ((if_neg (fun z => z (by decide))).trans ((if_neg (fun z => z hs)).trans ?_))
    rw [show (if (2 : Int) = 0 then (bstN g k).1 else if (2 : Int) = 1 then (bstN g k).2.1 else (bstN g k).2.2) = (bstN g k).2.2 from (if_neg (by decide)).trans (if_neg (by decide))]
  refine ⟨hf.1, hf.2, ht, hL, by omega, p1.trans hp, ?_, ?_, ?_, ?_, ?_, ht, by omega⟩
  · rw [c0, c2]; split <;> omega
  · rw [c0]; split <;> omega
  · rw [c0]; split <;> omega
  · rw [c2]; split <;> omega
  · rw [c2]; split <;> omega
theorem sd_rep (hI : PInv g) (h : isN g k) (hs : ofR g k 0 = 2) : 0 ≤ ofR g k 6 ∧ ofR g k 6 < g 1 ∧ ofR g k 1 = ofR g (ofR g k 6) 1 ∧ (ofR g k 1 = -6 ↔ ofR g k 2 = -6) ∧ -6 ≤ ofR g k 1 ∧ ofR g k 1 ≤ 60 ∧ -6 ≤ ofR g k 2 ∧ ofR g k 2 ≤ 60 ∧ 0 < ofR g k 8 ∧ ofR g k 8 ≤ 16 ∧ coR g k 0 = -5 := by
  have hnu := hI.nums
  rw [of_0 h] at hs
  have ht : ¬ tgt g k = -6 := fun z => by
    unfold stt at hs
    rw [if_neg (fun y => y z)] at hs
    split at hs <;> omega
  have hd := rot_rep hI h ht
  have htg := hI.tg h.1 h.2
  have hN : isN g (tgt g k) := ⟨by omega, by omega⟩
  have hb := nt_bd g (rot g k)
  have c1 : coR g k 0 = -5 := (if_neg (fun z => z h)).trans ((if_neg (fun z => z (by decide))).trans (if_pos (by omega)))
  rw [of_6 h, of_1 h, of_2 h, of_8 h, of_1 hN, ← hd.1]
  refine ⟨hN.1, hN.2, rfl, ?_, ?_, ?_, ?_, ?_, hd.2.1, hd.2.2, c1⟩
  all_goals (by_cases c : ntL g (rot g k) = 0 <;> omega)
theorem sd_word (hI : PInv g) (h : isN g k) (ht : tgt g k = -6) : 0 ≤ woR g k 0 ∧ woR g k 0 ≤ 25 ∧ 0 ≤ woR g k (ofR g k 3 - 1) ∧ woR g k (ofR g k 3 - 1) ≤ 25 ∧ woR g k (ofR g k 3) = -1 ∧ 1 ≤ ofR g k 3 ∧ ofR g k 3 ≤ 60 := by
  have hw := hI.nt h.1 h.2 ht
  have e : ∀ p : Int, woR g k p = itm (g (126 + 80 * k)) (fun j => g (127 + 80 * k + j)) p := fun p => (if_neg (fun z => z h)).trans (if_neg (fun z => z ht))
  rw [e, e, e, of_3 h ht]
  have e1 : ∀ p : Int, 0 ≤ p → p < g (126 + 80 * k) → itm (g (126 + 80 * k)) (fun j => g (127 + 80 * k + j)) p = g (127 + 80 * k + p) := fun p p0 p1 => if_pos ⟨p0, p1⟩
  have e2 : itm (g (126 + 80 * k)) (fun j => g (127 + 80 * k + j)) (g (126 + 80 * k)) = -1 := if_neg (by omega)
  rw [e2, e1 0 (by omega) (by omega), e1 _ (by omega) (by omega)]
  have q1 := hw.2.2.2.2.2.2.1 0 (by omega) (by omega)
  have q2 := hw.2.2.2.2.2.2.1 (g (126 + 80 * k) - 1) (by omega) (by omega)
  exact ⟨q1.1, q1.2, q2.1, q2.2, rfl, hw.1, hw.2.1⟩
end

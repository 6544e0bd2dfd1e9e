/-! both worlds side by side -/
def MdAt (D : zD) (y : Nat) (m n : Int) (f : Int → Int) (st : Int → Int → Int) (hb : Int → Int) (ss : Int → Int → Int) (P : Int → Int) (H : Heap) : Prop :=
  MoE D y m n H ∧ NwAt D y f H ∧ PaAt D y m st H ∧ SvAt D y hb ss H ∧ Ia D (y + 5) 80 P H ∧ (∃ W : Int → Int, Ia D (y + 6) 112 W H) ∧ LnE D y H ∧ ∃ T : Int → Int, Ia D (y + 10) 120 T H
theorem MdAt.fx {D : zD} {x y lo : Nat} {m n : Int} {f hb P : Int → Int} {st ss : Int → Int → Int} {H H1 : Heap} (h : MdAt D y m n f st hb ss P H) (fx : Fx x lo H H1) (e : x + 140 ≤ y ∧ y + 11 ≤ lo) : MdAt D y m n f st hb ss P H1 := by
  have k : ∀ q : Nat, q < H.size → y ≤ q → q < y + 11 → H1[q]? = H[q]? := fun q a b c => fx.2 q a (by omega) (by omega)
  obtain ⟨⟨q1, q2, q3, q4, q5, hO⟩, hNw, ⟨ps, hPs, hPe⟩, ⟨hBa, hb01, ps2, hSl, hSe⟩, hPd, ⟨W, hOr⟩, ⟨⟨L, hL⟩, ⟨V, hV⟩, ⟨Q, hQ⟩⟩, ⟨T, hT⟩⟩ := h
  have kO : Ob D y 9 _ H1 := Ob.kept hO (k y (Ob.lt hO) (by omega) (by omega))
  have kI : ∀ (j : Nat) (N : Nat) (g : Int → Int), j < 11 → Ia D (y + j) N g H → Ia D (y + j) N g H1 := fun j N g hj hh => Ia.kept hh (k (y + j) hh.lt (by omega) (by omega))
  exact ⟨⟨q1, q2, q3, q4, q5, kO⟩, kI 1 _ _ (by omega) hNw, ⟨ps, kI 2 _ _ (by omega) hPs, hPe⟩, ⟨Ba.kept hBa (k (y + 4) hBa.lt (by omega) (by omega)), hb01, ps2, kI 3 _ _ (by omega) hSl, hSe⟩, kI 5 _ _ (by omega) hPd, ⟨W, kI 6 _ _ (by omega) hOr⟩, ⟨⟨L, kI 7 _ _ (by omega) hL⟩, ⟨V, kI 8 _ _ (by omega) hV⟩, ⟨Q, kI 9 _ _ (by omega) hQ⟩⟩, ⟨T, kI 10 _ _ (by omega) hT⟩⟩
theorem Fr.unI {a b c d lo hi e : Nat} {H H' : Heap} (h : Fr (Un a b c d) e H H') (z : lo ≤ a ∧ b ≤ hi ∧ lo ≤ c ∧ d ≤ hi) : Fr (Iv lo hi) e H H' :=
  h.mono (fun p _ hp => hp.elim (fun q => ⟨Nat.le_trans z.1 q.1, Nat.lt_of_lt_of_le q.2 z.2.1⟩) (fun q => ⟨Nat.le_trans z.2.2.1 q.1, Nat.lt_of_lt_of_le q.2 z.2.2.2⟩))
section
variable {D : zD} {x lo : Nat} {m : Int} {sa sl : Int → Option Nat} {st ss : Int → Int → Int} {g g' : Int → Int} {n : Int} {f f' : Int → Int} {H H1 : Heap}
theorem AnAt.far (h : AnAt D x lo m sa sl st ss g n f H) (fr : Fr (Iv (x + 140) lo) 0 H H1) : AnAt D x lo m sa sl st ss g n f H1 := by
  obtain ⟨hO, hPg, hMg, hSc, hPd, hRd, hHs, hSl⟩ := h
  exact ⟨hO.fr fr (by omega), hPg.fr fr (by omega), hMg.fr fr (by omega), hSc.fr fr (by omega), hPd.fr fr (by omega), hRd.fr fr (by omega), hHs.fr fr (by omega), hSl.fr fr (by omega)⟩
theorem AnAt.cg (h : AnAt D x lo m sa sl st ss g n f H) (e : MEq g g') : AnAt D x lo m sa sl st ss g' n f H := by
  obtain ⟨hO, hPg, hMg, hSc, hPd, hRd, hHs, hSl⟩ := h
  exact ⟨hO, hPg.congr e, hMg, hSc, hPd, hRd, hHs, hSl⟩
theorem AnAt.pd' (h : AnAt D x lo m sa sl st ss g n f H) (e : ∀ i : Int, 0 ≤ i → i < n → f i = f' i) : AnAt D x lo m sa sl st ss g n f' H := by
  obtain ⟨hO, hPg, hMg, hSc, hPd, hRd, hHs, hSl⟩ := h
  exact ⟨hO, hPg, hMg, hSc, hPd.congr e, hRd, hHs, hSl⟩
end
theorem hs_inv {m r : Int} {st : Int → Int → Int} {f : Int → Int} (hm : 0 ≤ m ∧ m ≤ 6) (hI : PInv f) (h : ∀ i : Int, 0 ≤ i → i < m → PInv (st i)) : ∀ i : Int, 0 ≤ i → i < hsN m r → PInv (hsS m r st f i) := by
  intro i i0 i1
  unfold hsN at i1
  unfold hsS
  by_cases c : r < 0
  · rw [if_pos c] at i1 ⊢; exact h i i0 i1
  · rw [if_neg c] at i1 ⊢
    unfold hpN at i1
    unfold hpS
    by_cases c2 : m < 6
    · rw [if_pos c2] at i1 ⊢
      by_cases c3 : i = m
      · rw [if_pos c3]; exact hI
      · rw [if_neg c3]; exact h i i0 (by omega)
    · rw [if_neg c2] at i1 ⊢
      by_cases c3 : i = 5
      · rw [if_pos c3]; exact hI
      · rw [if_neg c3]; exact h (i + 1) (by omega) (by omega)
/-- what holds between two calls: the two objects tell the same -/
def Wld (D : zD) (x : Nat) (m n : Int) (H : Heap) : Prop := ∃ (sa sl : Int → Option Nat) (st ss : Int → Int → Int) (f P hb : Int → Int),
  AnAt D x (x + 151) m sa sl st ss f n P H ∧ MdAt D (x + 140) m n f st hb ss P H ∧ PInv f ∧ (∀ i : Int, 0 ≤ i → i < m → PInv (st i)) ∧ (∀ j : Int, 0 ≤ j → j < 2 → hb j = 1 → PInv (ss j)) ∧ (∀ j : Int, 0 ≤ j → j < 2 → (hb j = 1 ↔ ¬ sl j = none)) ∧ (∀ i : Int, 0 ≤ i → i < n → 33 ≤ P i ∧ P i ≤ 126) ∧ x + 151 ≤ H.size
/-- after a call that may be recorded -/
theorem Wld.ed {D : zD} {x : Nat} {m n r : Int} {sa2 sl : Int → Option Nat} {st ss : Int → Int → Int} {f G f2 P hb : Int → Int} {H1 H2 : Heap} (hm : 0 ≤ m ∧ m ≤ 6) (hI : PInv f) (hIs : ∀ i : Int, 0 ≤ i → i < m → PInv (st i)) (hIv : ∀ j : Int, 0 ≤ j → j < 2 → hb j = 1 → PInv (ss j)) (hHb : ∀ j : Int, 0 ≤ j → j < 2 → (hb j = 1 ↔ ¬ sl j = none)) (hPr : ∀ i : Int, 0 ≤ i → i < n → 33 ≤ P i ∧ P i ≤ 126) (hsz : x + 151 ≤ H1.size)
    (hA : AnAt D x (x + 151) (hsN m r) sa2 sl (hsS m r st f) ss G n P H1) (hG : PInv G) (hE : MEq G f2) (hM : MdAt D (x + 140) (hsN m r) n f2 (hsS m r st f) hb ss P H2) (fr : Fr (Iv (x + 140) (x + 151)) 0 H1 H2) : Wld D x (hsN m r) n H2 :=
  ⟨sa2, sl, hsS m r st f, ss, f2, P, hb, (hA.far fr).cg hE, hM, hG.meq hE, hs_inv hm hI hIs, hIv, hHb, hPr, by have := fr.1; omega⟩
theorem caL_inv {n : Int} {f : Int → Int} : ∀ (k : Nat) (p d : Int) (g : Int → Int), PInv g → PInv (caL n f k p d g).2
  | 0, _, _, _, h => h
  | k + 1, p, d, g, h => by
    by_cases c : ordOk n f p
    · by_cases c2 : (obP n f p g).1 < 0
      · rw [caL_stop c c2]; exact h.obP'
      · rw [caL_go c c2]; exact caL_inv k _ _ _ h.obP'
    · rw [caL_no c]; exact h
theorem cy_inv {n : Int} {f g : Int → Int} (h : PInv g) : PInv (cyG n f g) := by
  unfold cyG
  split
  · exact h
  · exact caL_inv _ _ _ _ h
theorem ccS_rng {u : Nat} : ∀ (k s : Nat), 0 < ccS u k s → (∀ j : Nat, j < s → 33 ≤ u / 256 ^ j % 256 ∧ u / 256 ^ j % 256 ≤ 126) → ∀ j : Nat, (j : Int) < ccS u k s → 33 ≤ u / 256 ^ j % 256 ∧ u / 256 ^ j % 256 ≤ 126
  | 0, s, _, h, j, hj => h j (by have e : ccS u 0 s = (s : Int) := rfl; omega)
  | k + 1, s, hp, h, j, hj => by
    have e : ccS u (k + 1) s = if u / 256 ^ s = 0 then (s : Int) else if ¬ (33 ≤ u / 256 ^ s % 256 ∧ u / 256 ^ s % 256 ≤ 126) then 0 else ccS u k (s + 1) := rfl
    rw [e] at hp hj
    by_cases c : u / 256 ^ s = 0
    · rw [if_pos c] at hj; exact h j (by omega)
    · rw [if_neg c] at hp hj
      by_cases c2 : ¬ (33 ≤ u / 256 ^ s % 256 ∧ u / 256 ^ s % 256 ≤ 126)
      · rw [if_pos c2] at hp; omega
      · rw [if_neg c2] at hp hj
        have c3 := Decidable.not_not.mp c2
        refine ccS_rng k (s + 1) hp (fun j2 h2 => ?_) j hj
        by_cases c4 : j2 = s
        · rw [c4]; exact c3
        · exact h j2 (by omega)
theorem pt_rng {u : Nat} {n : Int} {P P2 : Int → Int} (hP : ∀ i : Int, 0 ≤ i → i < n → 33 ≤ P i ∧ P i ≤ 126) (h : ∀ i : Int, 0 ≤ i → i < ptN u n → P2 i = ptF u (ccS u 8 0) n P i) : ∀ i : Int, 0 ≤ i → i < ptN u n → 33 ≤ P2 i ∧ P2 i ≤ 126 := by
  intro i i0 i1
  rw [h i i0 i1]
  unfold ptF
  by_cases c : i < n
  · rw [if_pos c]; exact hP i i0 c
  · rw [if_neg c]
    have hcb := ccS_bd u 8 0
    have hlt : i < n + ccS u 8 0 := by
      unfold ptN at i1
      (repeat' split at i1) <;> omega
    have q := ccS_rng (u := u) 8 0 (by omega) (fun j hj => absurd hj (Nat.not_lt_zero _)) (ccS u 8 0 - 1 - (i - n)).toNat (by omega)
    omega
theorem rs_eq {sl : Int → Option Nat} {ss : Int → Int → Int} {hb : Int → Int} {e : Int} (h01 : ∀ i : Int, 0 ≤ i → i < 2 → hb i = 0 ∨ hb i = 1) (hHb : ∀ j : Int, 0 ≤ j → j < 2 → (hb j = 1 ↔ ¬ sl j = none)) : (if ¬ (0 ≤ e ∧ e < 2) then -2 else if hb e = 0 then -5 else ss e 0) = rsR sl ss e := by
  unfold rsR
  by_cases c : ¬ (0 ≤ e ∧ e < 2)
  · rw [if_pos c, if_pos c]
  · rw [if_neg c, if_neg c]
    have c2 := Decidable.not_not.mp c
    by_cases z : sl e = none
    · rw [if_pos z, if_pos (by have q1 := h01 e c2.1 c2.2; have q2 := (hHb e c2.1 c2.2).mp; rcases q1 with q | q; exact q; exact absurd z (q2 q))]
    · rw [if_neg z, if_neg (by have q2 := (hHb e c2.1 c2.2).mpr z; omega)]

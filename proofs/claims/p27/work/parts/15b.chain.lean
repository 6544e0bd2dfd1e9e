/-! chains of replies, families, a note that goes -/
theorem chn_succ (g : Int → Int) : ∀ (k : Nat) (o : Int), chn g (k + 1) o = tgt g (chn g k o)
  | 0, o => rfl
  | k + 1, o => by
    show chn g (k + 1) (tgt g o) = tgt g (chn g k (tgt g o))
    exact chn_succ g k (tgt g o)
theorem dep_le (g : Int → Int) : ∀ (f : Nat) (o : Int), dep g f o ≤ f
  | 0, o => Nat.le_refl 0
  | f + 1, o => by
    simp only [dep]
    split
    · omega
    · have := dep_le g f (tgt g o); omega
theorem dep_before (g : Int → Int) : ∀ (f : Nat) (o : Int) (k : Nat), k < dep g f o → ¬ tgt g (chn g k o) = -6
  | 0, o, k, h => by simp only [dep] at h; omega
  | f + 1, o, k, h => by
    simp only [dep] at h
    split at h
    · omega
    · next c =>
      cases k with
      | zero => exact c
      | succ k => exact dep_before g f (tgt g o) k (by omega)
theorem dep_at (g : Int → Int) : ∀ (f : Nat) (o : Int), dep g f o < f → tgt g (chn g (dep g f o) o) = -6
  | 0, o, h => absurd h (Nat.not_lt_zero _)
  | f + 1, o, h => by
    simp only [dep] at h ⊢
    split at h
    · next c => rw [if_pos c]; exact c
    · next c => rw [if_neg c]; exact dep_at g f (tgt g o) (by omega)
theorem chn_bd {g : Int → Int} (hI : PInv g) {n : Int} (hn : 0 ≤ n ∧ n < g 1) : ∀ k : Nat, (∀ i : Nat, i < k → ¬ tgt g (chn g i n) = -6) → 0 ≤ chn g k n ∧ chn g k n + k ≤ n
  | 0, _ => ⟨hn.1, by show n + 0 ≤ n; omega⟩
  | k + 1, h => by
    obtain ⟨h1, h2⟩ := chn_bd hI hn k (fun i hi => h i (by omega))
    rw [chn_succ]
    rcases hI.tg h1 (by omega) with q | q
    · exact absurd q (h k (by omega))
    · omega
theorem dep_bd {g : Int → Int} (hI : PInv g) {n : Int} (hn : 0 ≤ n ∧ n < g 1) : (dep g 16 n : Int) ≤ n ∧ dep g 16 n < 16 ∧ 0 ≤ rot g n ∧ rot g n ≤ n ∧ tgt g (rot g n) = -6 := by
  have hb := chn_bd hI hn (dep g 16 n) (fun i hi => dep_before g 16 n i hi)
  have hnum := hI.nums
  have h16 : dep g 16 n < 16 := by omega
  exact ⟨by omega, h16, hb.1, by unfold rot; omega, dep_at g 16 n h16⟩
theorem fam_bd {g : Int → Int} {n : Int} (hn : 0 ≤ n) : ∀ k : Nat, n + k < 16 → fam g n k < 65536
  | 0, h => by
    have h1 : 2 ^ n.toNat < 2 ^ 16 := Nat.pow_lt_pow_right (by decide) (by omega)
    exact h1
  | k + 1, h => by
    have ih := fam_bd (g := g) hn k (by omega)
    have h1 : 2 ^ (n + 1 + k).toNat < 2 ^ 16 := Nat.pow_lt_pow_right (by decide) (by omega)
    simp only [fam]
    split
    · exact or_lt ih h1
    · exact ih
theorem fam_yes {g : Int → Int} {n : Int} {k : Nat} (h : isin (fam g n k : Int) (tgt g (n + 1 + k))) : fam g n (k + 1) = fam g n k ||| 2 ^ (n + 1 + k).toNat := by simp only [fam]; rw [if_pos h]
theorem fam_no {g : Int → Int} {n : Int} {k : Nat} (h : ¬ isin (fam g n k : Int) (tgt g (n + 1 + k))) : fam g n (k + 1) = fam g n k := by simp only [fam]; rw [if_neg h]
theorem rpS_at {g : Int → Int} {n : Int} (hk : 0 ≤ g 1) : (up (up (up g (126 + 80 * g 1) 0) (125 + 80 * g 1) n) 1 (g 1 + 1) 1 = g 1 + 1) ∧ (up (up (up g (126 + 80 * g 1) 0) (125 + 80 * g 1) n) 1 (g 1 + 1) (125 + 80 * g 1) = n) ∧ (∀ j : Int, ¬ j = 1 → ¬ j = 125 + 80 * g 1 → ¬ j = 126 + 80 * g 1 → up (up (up g (126 + 80 * g 1) 0) (125 + 80 * g 1) n) 1 (g 1 + 1) j = g j) :=
  ⟨if_pos rfl, by unfold up; rw [if_neg (by omega), if_pos rfl], fun j a b c => by simp only [up]; rw [if_neg a, if_neg b, if_neg c]⟩
theorem rmG_lo {g : Int → Int} {k j : Int} (h : j < 65) (h1 : ¬ j = 1) : rmG g k j = g j := by
  unfold rmG; rw [if_neg h1, if_neg (by omega), if_neg (by omega)]
theorem rmG_1 (g : Int → Int) (k : Int) : rmG g k 1 = g 1 - 1 := rfl
theorem rmG_own {g : Int → Int} {k j : Int} (h0 : 0 ≤ j) (h : j < 60) : rmG g k (65 + j) = dropB (g (65 + j)) k := by
  unfold rmG; rw [if_neg (by omega), if_pos (by omega)]
theorem rmG_bel {g : Int → Int} {k j : Int} (h : 125 ≤ j) (h1 : j < 125 + 80 * k) : rmG g k j = g j := by
  unfold rmG; rw [if_neg (by omega), if_neg (by omega), if_pos h, if_neg (by omega)]
theorem rmG_to {g : Int → Int} {k i : Int} (hk : 0 ≤ k) (h : k ≤ i) : rmG g k (125 + 80 * i) = if k < g (125 + 80 * (i + 1)) then g (125 + 80 * (i + 1)) - 1 else g (125 + 80 * (i + 1)) := by
  unfold rmG
  rw [if_neg (by omega), if_neg (by omega), if_pos (by omega), if_pos (by omega), show 125 + 80 * i + 80 = 125 + 80 * (i + 1) by omega]
  by_cases c : k < g (125 + 80 * (i + 1))
  · rw [if_pos c, if_pos ⟨by omega, c⟩]
  · rw [if_neg c, if_neg (fun z => c z.2)]
theorem rmG_in {g : Int → Int} {k i m : Int} (hk : 0 ≤ k) (h : k ≤ i) (h0 : 0 < m) (h1 : m < 80) : rmG g k (125 + 80 * i + m) = g (125 + 80 * (i + 1) + m) := by
  unfold rmG
  rw [if_neg (by omega), if_neg (by omega), if_pos (by omega), if_pos (by omega), if_neg (by omega), show 125 + 80 * i + m + 80 = 125 + 80 * (i + 1) + m by omega]
/-- a note's cells while those behind note k move up: those done so far have lost one where they point behind it -/
def adj (k x j t : Int) : Int := if k < j ∧ j ≤ x ∧ k < t then t - 1 else t
def NtRm (D : zD) (g : Int → Int) (k x j : Int) (q : Nat) (H : Heap) : Prop :=
  ∃ (t wl al bl : Int) (w a b : Int → Int), NoteAt D q (adj k x j t) wl al bl w a b H ∧ rg t ∧ (j < g 1 → NoteIs g j t wl al bl w a b)
theorem NtRm.fr {D : zD} {g : Int → Int} {k x j : Int} {q x1 y d : Nat} {H H' : Heap} (h : NtRm D g k x j q H) (fr : Fr (Iv x1 y) d H H') (e : q + 7 ≤ x1 ∨ y ≤ q) : NtRm D g k x j q H' := by
  obtain ⟨t, wl, al, bl, w, a, b, h1, h2⟩ := h
  exact ⟨t, wl, al, bl, w, a, b, h1.fr fr e, h2⟩
def NtsRm (D : zD) (q : Nat) (g : Int → Int) (pi : Int → Nat) (k x : Int) (H : Heap) : Prop := ∀ j : Int, 0 ≤ j → j < 16 → NtRm D g k x j (q + 9 + 7 * pi j) H
theorem NtsRm.fr {D : zD} {q x1 y d : Nat} {g : Int → Int} {pi : Int → Nat} {k x : Int} {H H' : Heap} (h : NtsRm D q g pi k x H) (fr : Fr (Iv x1 y) d H H') (e : PgI pi ∧ (q + 121 ≤ x1 ∨ y ≤ q + 9)) : NtsRm D q g pi k x H' :=
  fun i h0 h1 => (h i h0 h1).fr fr (by have := e.1.1 i h0 h1; omega)
/-- the row of notes while they move up -/
def shp (pi : Int → Nat) (k x : Int) : Int → Nat := fun j => if k ≤ j ∧ j < x then pi (j + 1) else pi j
def fin (pi : Int → Nat) (k c : Int) : Int → Nat := fun j => if k ≤ j ∧ j < c then pi (j + 1) else if j = c then pi k else pi j
theorem fin_I {pi : Int → Nat} (h : PgI pi) {k c : Int} (hk : 0 ≤ k) (hc : k ≤ c) (h16 : c < 16) : PgI (fin pi k c) := by
  refine ⟨fun i h0 h1 => ?_, fun i j a0 a1 b0 b1 e => ?_⟩
  · unfold fin
    split
    · exact h.1 _ (by omega) (by omega)
    · split
      · exact h.1 _ (by omega) (by omega)
      · exact h.1 _ (by omega) (by omega)
  · unfold fin at e
    (repeat' split at e)
    all_goals (have := h.2 _ _ (by omega) (by omega) (by omega) (by omega) e; omega)
theorem NtsRm.done {D : zD} {q : Nat} {g : Int → Int} {pi : Int → Nat} {k : Int} {H : Heap} (h : NtsRm D q g pi k (g 1 - 1) H) (hk : 0 ≤ k ∧ k < g 1 ∧ g 1 ≤ 16) (hl : ∀ i : Int, 0 ≤ i → i < g 1 → g (125 + 80 * i) = -6 → g (126 + 80 * i) ≤ 60 ∧ g (187 + 80 * i) ≤ 8 ∧ g (196 + 80 * i) ≤ 8) : NtsAt D q (rmG g k) (fin pi k (g 1 - 1)) (fun i => i < rmG g k 1) H := by
  intro i h0 h1
  rw [rmG_1]
  unfold fin
  by_cases c : k ≤ i ∧ i < g 1 - 1
  · rw [if_pos c]
    obtain ⟨t, wl, al, bl, w, a, b, a1, a2, a3⟩ := h (i + 1) (by omega) (by omega)
    refine ⟨_, wl, al, bl, w, a, b, a1, by unfold adj; split <;> omega, fun _ => ?_⟩
    obtain ⟨b1, b2⟩ := a3 (by omega)
    have e0 : adj k (g 1 - 1) (i + 1) t = rmG g k (125 + 80 * i) := by
      rw [rmG_to hk.1 c.1, ← b1]
      unfold adj
      by_cases c2 : k < t
      · rw [if_pos c2, if_pos (by omega)]
      · rw [if_neg c2, if_neg (by omega)]
    refine ⟨e0, fun z => ?_⟩
    have ht : t = -6 := by
      unfold adj at z
      split at z <;> omega
    obtain ⟨c1, c2, c3, c4, c5, c6⟩ := b2 ht
    have hb := hl (i + 1) (by omega) (by omega) (by omega)
    have em : ∀ m : Int, 0 < m → m < 80 → rmG g k (125 + 80 * i + m) = g (125 + 80 * (i + 1) + m) := fun m x y => rmG_in hk.1 c.1 x y
    refine ⟨?_, ?_, ?_, fun j d1 d2 => ?_, fun j d1 d2 => ?_, fun j d1 d2 => ?_⟩
    · rw [show 126 + 80 * i = 125 + 80 * i + 1 by omega, em 1 (by omega) (by omega), show 125 + 80 * (i + 1) + 1 = 126 + 80 * (i + 1) by omega]; exact c1
    · rw [show 187 + 80 * i = 125 + 80 * i + 62 by omega, em 62 (by omega) (by omega), show 125 + 80 * (i + 1) + 62 = 187 + 80 * (i + 1) by omega]; exact c2
    · rw [show 196 + 80 * i = 125 + 80 * i + 71 by omega, em 71 (by omega) (by omega), show 125 + 80 * (i + 1) + 71 = 196 + 80 * (i + 1) by omega]; exact c3
    · rw [show 127 + 80 * i + j = 125 + 80 * i + (2 + j) by omega, em (2 + j) (by omega) (by omega), show 125 + 80 * (i + 1) + (2 + j) = 127 + 80 * (i + 1) + j by omega]; exact c4 j d1 d2
    · rw [show 188 + 80 * i + j = 125 + 80 * i + (63 + j) by omega, em (63 + j) (by omega) (by omega), show 125 + 80 * (i + 1) + (63 + j) = 188 + 80 * (i + 1) + j by omega]; exact c5 j d1 d2
    · rw [show 197 + 80 * i + j = 125 + 80 * i + (72 + j) by omega, em (72 + j) (by omega) (by omega), show 125 + 80 * (i + 1) + (72 + j) = 197 + 80 * (i + 1) + j by omega]; exact c6 j d1 d2
  · rw [if_neg c]
    by_cases c2 : i = g 1 - 1
    · rw [if_pos c2]
      obtain ⟨t, wl, al, bl, w, a, b, a1, a2, a3⟩ := h k (by omega) (by omega)
      exact ⟨_, wl, al, bl, w, a, b, a1, by unfold adj; split <;> omega, fun z => absurd z (by omega)⟩
    · rw [if_neg c2]
      obtain ⟨t, wl, al, bl, w, a, b, a1, a2, a3⟩ := h i (by omega) (by omega)
      refine ⟨_, wl, al, bl, w, a, b, a1, by unfold adj; split <;> omega, fun z => ?_⟩
      obtain ⟨b1, b2⟩ := a3 (by omega)
      have e0 : adj k (g 1 - 1) i t = t := by unfold adj; rw [if_neg (by omega)]
      rw [e0]
      refine ⟨by rw [rmG_bel (by omega) (by omega)]; exact b1, fun z2 => ?_⟩
      obtain ⟨c1, c2, c3, c4, c5, c6⟩ := b2 z2
      have hb := hl i (by omega) (by omega) (by omega)
      exact ⟨by rw [rmG_bel (by omega) (by omega)]; exact c1, by rw [rmG_bel (by omega) (by omega)]; exact c2, by rw [rmG_bel (by omega) (by omega)]; exact c3, fun j d1 d2 => by rw [rmG_bel (by omega) (by omega)]; exact c4 j d1 d2, fun j d1 d2 => by rw [rmG_bel (by omega) (by omega)]; exact c5 j d1 d2, fun j d1 d2 => by rw [rmG_bel (by omega) (by omega)]; exact c6 j d1 d2⟩
theorem shp_step (q : Nat) (pi : Int → Nat) {k x : Int} (h : k ≤ x) : up (fun i => some (q + 9 + 7 * shp pi k x i)) x (some (q + 9 + 7 * pi (x + 1))) = fun i => some (q + 9 + 7 * shp pi k (x + 1) i) := by
  funext j
  simp only [up, shp]
  by_cases c : j = x
  · rw [if_pos c, if_pos (by omega), c]
  · rw [if_neg c]
    by_cases c2 : k ≤ j ∧ j < x
    · rw [if_pos c2, if_pos (by omega)]
    · rw [if_neg c2, if_neg (by omega)]
theorem shp_0 (q : Nat) (pi : Int → Nat) (k : Int) : (fun i => some (q + 9 + 7 * shp pi k k i)) = fun i : Int => some (q + 9 + 7 * pi i) := by
  funext j
  simp only [shp]
  rw [if_neg (by omega)]
theorem shp_end (q : Nat) (pi : Int → Nat) {k c : Int} : up (fun i => some (q + 9 + 7 * shp pi k c i)) c (some (q + 9 + 7 * pi k)) = fun i => some (q + 9 + 7 * fin pi k c i) := by
  funext j
  simp only [up, shp, fin]
  by_cases h : j = c
  · rw [if_pos h, if_neg (by omega), if_pos h]
  · rw [if_neg h, if_neg h]
theorem NtsRm.step {D : zD} {q : Nat} {g : Int → Int} {pi : Int → Nat} {k x : Int} {H H' : Heap} (h : NtsRm D q g pi k x H) (hp : PgI pi) (hx : 0 ≤ x ∧ x + 1 < 16) (fr : Fr (Iv (q + 9 + 7 * pi (x + 1)) (q + 9 + 7 * pi (x + 1) + 7)) 0 H H') (hn : NtRm D g k (x + 1) (x + 1) (q + 9 + 7 * pi (x + 1)) H') : NtsRm D q g pi k (x + 1) H' := by
  intro j h0 h1
  by_cases c : j = x + 1
  · rw [c]; exact hn
  · have hne : ¬ pi j = pi (x + 1) := fun z => c (hp.2 j (x + 1) h0 h1 (by omega) hx.2 z)
    obtain ⟨t, wl, al, bl, w, a, b, a1, a2, a3⟩ := (h j h0 h1).fr fr (by omega)
    refine ⟨t, wl, al, bl, w, a, b, ?_, a2, a3⟩
    have e : adj k (x + 1) j t = adj k x j t := by
      unfold adj
      by_cases c2 : k < j ∧ j ≤ x ∧ k < t
      · rw [if_pos c2, if_pos (by omega)]
      · rw [if_neg c2, if_neg (by omega)]
    rw [e]; exact a1
theorem NtsRm.start {D : zD} {q : Nat} {g : Int → Int} {pi : Int → Nat} {k : Int} {H : Heap} (h : NtsAt D q g pi (fun j => j < g 1) H) : NtsRm D q g pi k k H := by
  intro j h0 h1
  obtain ⟨t, wl, al, bl, w, a, b, a1, a2, a3⟩ := h j h0 h1
  refine ⟨t, wl, al, bl, w, a, b, ?_, a2, a3⟩
  have e : adj k k j t = t := by unfold adj; rw [if_neg (by omega)]
  rw [e]; exact a1
theorem drp_step {m : Int} {n i : Int} {g : Int → Int} (h : n ≤ i) : drp m (i + 1 - n).toNat n g = drp m (i - n).toNat n (if isin m i then rmG g i else g) := by
  rw [show (i + 1 - n).toNat = (i - n).toNat + 1 by omega]
  simp only [drp]
  rw [show n + ((i - n).toNat : Int) = i by omega]
theorem hl_rm {g : Int → Int} {k : Int} (hk : 0 ≤ k) (hl : ∀ i : Int, 0 ≤ i → i < g 1 → g (125 + 80 * i) = -6 → g (126 + 80 * i) ≤ 60 ∧ g (187 + 80 * i) ≤ 8 ∧ g (196 + 80 * i) ≤ 8) :
    ∀ i : Int, 0 ≤ i → i < rmG g k 1 → rmG g k (125 + 80 * i) = -6 → rmG g k (126 + 80 * i) ≤ 60 ∧ rmG g k (187 + 80 * i) ≤ 8 ∧ rmG g k (196 + 80 * i) ≤ 8 := by
  intro i h0 h1 h2
  rw [rmG_1] at h1
  by_cases c : i < k
  · rw [rmG_bel (by omega) (by omega)] at h2
    rw [rmG_bel (by omega) (by omega), rmG_bel (j := 187 + 80 * i) (by omega) (by omega), rmG_bel (j := 196 + 80 * i) (by omega) (by omega)]
    exact hl i h0 (by omega) h2
  · rw [rmG_to hk (by omega)] at h2
    have h3 := hl (i + 1) (by omega) (by omega) (by split at h2 <;> omega)
    have e1 := rmG_in (g := g) (k := k) (i := i) (m := 1) hk (by omega) (by omega) (by omega)
    have e2 := rmG_in (g := g) (k := k) (i := i) (m := 62) hk (by omega) (by omega) (by omega)
    have e3 := rmG_in (g := g) (k := k) (i := i) (m := 71) hk (by omega) (by omega) (by omega)
    rw [show 126 + 80 * i = 125 + 80 * i + 1 by omega, show 187 + 80 * i = 125 + 80 * i + 62 by omega, show 196 + 80 * i = 125 + 80 * i + 71 by omega, e1, e2, e3, show 125 + 80 * (i + 1) + 1 = 126 + 80 * (i + 1) by omega, show 125 + 80 * (i + 1) + 62 = 187 + 80 * (i + 1) by omega, show 125 + 80 * (i + 1) + 71 = 196 + 80 * (i + 1) by omega]
    exact h3
theorem how_rm {g : Int → Int} {k : Int} (h60 : g 0 ≤ 60) (how : ∀ j : Int, 0 ≤ j → j < g 0 → 0 ≤ OW g j ∧ OW g j < 65536) : ∀ j : Int, 0 ≤ j → j < rmG g k 0 → 0 ≤ OW (rmG g k) j ∧ OW (rmG g k) j < 65536 := by
  intro j h0 h1
  rw [rmG_lo (by omega) (by omega)] at h1
  show 0 ≤ rmG g k (65 + j) ∧ rmG g k (65 + j) < 65536
  rw [rmG_own h0 (by omega)]
  exact dropB_bd (how j h0 h1)
theorem okS_note {g : Int → Int} {i wl al bl : Int} {w a b : Int → Int} (h : NoteIs g i (-6) wl al bl w a b) : okS (g 0) (LT g) wl w = okN g i ∧ lkS (g 0) (LT g) wl al bl a b = lkN g i := by
  obtain ⟨h1, h2, h3, h4, h5, h6⟩ := h.2 rfl
  constructor
  · funext p
    unfold okN okS
    rw [← h1, alk_congr (n' := g 0) (f' := LT g) (W' := fun j => g (127 + 80 * i + j)) (fun j a b => by rw [h4 j a b])]
  · funext p
    unfold lkN lkS
    rw [← h1, ← h2, ← h3, alk_congr (n' := g 0) (f' := LT g) (W := a) (W' := fun j => g (188 + 80 * i + j)) (fun j a b => by rw [h5 j a b]), alk_congr (n' := g 0) (f' := LT g) (W := b) (W' := fun j => g (197 + 80 * i + j)) (fun j a b => by rw [h6 j a b])]
theorem lkN_bd {g : Int → Int} (hI : PInv g) {i : Int} (h0 : 0 ≤ i) (h1 : i < g 1) (e : tgt g i = -6) : ∀ p, 0 ≤ lkN g i p ∧ lkN g i p ≤ 1000 := by
  intro p
  have hn := hI.nt h0 h1 e
  have k1 := alk_bd (g 0) (LT g) (p - 1) (-1) (fun j => g (188 + 80 * i + j)) (m := g (187 + 80 * i)) (by omega)
  have k2 := alk_bd (g 0) (LT g) (p + g (126 + 80 * i)) 1 (fun j => g (197 + 80 * i + j)) (m := g (196 + 80 * i)) (by omega)
  unfold lkN lkS
  omega
theorem bst_bd {g : Int → Int} (hI : PInv g) {i : Int} (h0 : 0 ≤ i) (h1 : i < g 1) (e : tgt g i = -6) : 0 ≤ (bstN g i).2.2 ∧ (bstN g i).2.2 ≤ 60 ∧ ((bstN g i).2.2 = 0 → (bstN g i).1 = -6 ∧ (bstN g i).2.1 = -6) ∧ (0 < (bstN g i).2.2 → 0 ≤ (bstN g i).1 ∧ (bstN g i).1 + g (126 + 80 * i) ≤ g 0 ∧ 1 ≤ g (126 + 80 * i) ∧ 0 ≤ (bstN g i).2.1 ∧ (bstN g i).2.1 ≤ 1000) := by
  have hb := best_bd (okN g i) (lkN g i) (lkN_bd hI h0 h1 e) (g 0).toNat
  have hn := hI.nt h0 h1 e
  have hnum := hI.nums
  refine ⟨hb.1, by have := hb.2.1; unfold bstN; omega, hb.2.2.1, fun z => ?_⟩
  have k := hb.2.2.2 z
  have k2 := okS_in k.2.2.2.2 hn.1 (fun j a b => (hn.2.2.2.2.2.2.1 j a b).1)
  exact ⟨k.1, k2.2, hn.1, k.2.2.1, k.2.2.2.1⟩
theorem NtsAt.none {D : zD} {q : Nat} {g g' : Int → Int} {pi : Int → Nat} {S : Int → Prop} {H : Heap} (h : NtsAt D q g pi S H) : NtsAt D q g' pi (fun j => j < ((0 : Nat) : Int)) H := by
  intro i h0 h1
  obtain ⟨t, wl, al, bl, w, a, b, a1, a2, a3⟩ := h i h0 h1
  exact ⟨t, wl, al, bl, w, a, b, a1, a2, fun z => absurd z (by omega)⟩
theorem Ra.congr {D : zD} {q t N : Nat} {f f' : Int → Option Nat} {H : Heap} (h : Ra D q t N f H) (e : ∀ i : Int, 0 ≤ i → i < N → f i = f' i) : Ra D q t N f' H := by
  have h2 : H[q]? = some (arrV (D.2.2 t) N (fun j : Nat => va_rf (f j))) := h
  have h3 : arrV (D.2.2 t) N (fun j : Nat => va_rf (f j)) = arrV (D.2.2 t) N (fun j : Nat => va_rf (f' j)) := by
    unfold arrV
    congr 2
    funext j
    have e2 := e (j.val : Int) (by omega) (by have := j.isLt; omega)
    dsimp only
    rw [e2]
  rw [h3] at h2
  exact h2


/-! notes of which only some are said -/
def NtAq (D : zD) (g : Int → Int) (i : Int) (m : Prop) (q : Nat) (H : Heap) : Prop :=
  ∃ (t wl al bl : Int) (w a b : Int → Int), NoteAt D q t wl al bl w a b H ∧ rg t ∧ (m → NoteIs g i t wl al bl w a b)
theorem NtAq.fr {D : zD} {g : Int → Int} {i : Int} {m : Prop} {q x y d : Nat} {H H' : Heap} (h : NtAq D g i m q H) (fr : Fr (Iv x y) d H H') (e : q + 7 ≤ x ∨ y ≤ q) : NtAq D g i m q H' := by
  obtain ⟨t, wl, al, bl, w, a, b, h1, h2⟩ := h
  exact ⟨t, wl, al, bl, w, a, b, h1.fr fr e, h2⟩
theorem NtAq.weak {D : zD} {g : Int → Int} {i : Int} {m m' : Prop} {q : Nat} {H : Heap} (h : NtAq D g i m q H) (e : m' → m) : NtAq D g i m' q H := by
  obtain ⟨t, wl, al, bl, w, a, b, h1, h2, h3⟩ := h
  exact ⟨t, wl, al, bl, w, a, b, h1, h2, fun z => h3 (e z)⟩
theorem NtAq.congr {D : zD} {g g' : Int → Int} {i : Int} {m : Prop} {q : Nat} {H : Heap} (h : NtAq D g i m q H) (e : m → NEq g g' i) : NtAq D g' i m q H := by
  obtain ⟨t, wl, al, bl, w, a, b, h1, h2, h3⟩ := h
  exact ⟨t, wl, al, bl, w, a, b, h1, h2, fun z => (h3 z).congr (e z)⟩
theorem NtAt.q {D : zD} {g : Int → Int} {i : Int} {q : Nat} {H : Heap} (h : NtAt D g i q H) : NtAq D g i (i < g 1) q H := h
theorem NtAq.lt {D : zD} {g : Int → Int} {i : Int} {m : Prop} {q : Nat} {H : Heap} (h : NtAq D g i m q H) : q + 6 < H.size := by
  obtain ⟨t, wl, al, bl, w, a, b, h1, h2, h3⟩ := h
  exact h1.lt
/-- the notes of a page, those of S as the state says -/
def NtsAt (D : zD) (q : Nat) (g : Int → Int) (pi : Int → Nat) (S : Int → Prop) (H : Heap) : Prop := ∀ i : Int, 0 ≤ i → i < 16 → NtAq D g i (S i) (q + 9 + 7 * pi i) H
theorem NtsAt.fr {D : zD} {q x y d : Nat} {g : Int → Int} {pi : Int → Nat} {S : Int → Prop} {H H' : Heap} (h : NtsAt D q g pi S H) (fr : Fr (Iv x y) d H H') (e : PgI pi ∧ (q + 121 ≤ x ∨ y ≤ q + 9)) : NtsAt D q g pi S H' :=
  fun i h0 h1 => (h i h0 h1).fr fr (by have := e.1.1 i h0 h1; omega)
theorem NtsAt.one {D : zD} {q : Nat} {g g' : Int → Int} {pi : Int → Nat} {S S' : Int → Prop} {k : Int} {d : Nat} {H H' : Heap} (h : NtsAt D q g pi S H) (hp : PgI pi) (hk : 0 ≤ k ∧ k < 16) (fr : Fr (Iv (q + 9 + 7 * pi k) (q + 9 + 7 * pi k + 7)) d H H') (hn : NtAq D g' k (S' k) (q + 9 + 7 * pi k) H')
    (e : ∀ i : Int, 0 ≤ i → i < 16 → ¬ i = k → S' i → S i ∧ NEq g g' i) : NtsAt D q g' pi S' H' := by
  intro i h0 h1
  by_cases c : i = k
  · rw [c]; exact hn
  · have hne : ¬ pi i = pi k := fun z => c (hp.2 i k h0 h1 hk.1 hk.2 z)
    exact (((h i h0 h1).fr fr (by omega)).weak (fun z => (e i h0 h1 c z).1)).congr (fun z => (e i h0 h1 c z).2)
theorem PgN.op {D : zD} {q : Nat} {g : Int → Int} {H : Heap} (h : PgN D q g H) : ∃ pi : Int → Nat, Ra D (q + 7) 2 16 (fun i => some (q + 9 + 7 * pi i)) H ∧ PgI pi ∧ NtsAt D q g pi (fun i => i < g 1) H := h
theorem PgN.close {D : zD} {q : Nat} {g : Int → Int} {pi : Int → Nat} {H : Heap} (h1 : Ra D (q + 7) 2 16 (fun i => some (q + 9 + 7 * pi i)) H) (h2 : PgI pi) (h3 : NtsAt D q g pi (fun i => i < g 1) H) : PgN D q g H := ⟨pi, h1, h2, h3⟩
theorem anG_lo {g : Int → Int} {i a b j : Int} (hi : 0 ≤ i) (h : j < 65) : anG g i a b j = g j := by
  unfold anG
  rw [if_neg (by omega), if_neg (by omega), if_neg (by omega), if_neg (by omega), if_neg (by omega), if_neg (by omega), if_neg (by omega), if_neg (by omega)]
theorem anG_own {g : Int → Int} {i a b j : Int} (h0 : 0 ≤ j) (h : j < 60) : anG g i a b (65 + j) = if a ≤ j ∧ j ≤ b then addB (g (65 + j)) i else g (65 + j) := by
  unfold anG
  rw [if_pos (by omega), show 65 + j - 65 = j by omega]
theorem anG_oth {g : Int → Int} {i a b j : Int} (hi : 0 ≤ i) (h0 : 125 ≤ j) (h : j < 125 + 80 * i ∨ 205 + 80 * i ≤ j) : anG g i a b j = g j := by
  unfold anG
  rw [if_neg (by omega), if_neg (by omega), if_neg (by omega), if_neg (by omega), if_neg (by omega), if_neg (by omega), if_neg (by omega), if_neg (by omega)]
theorem anG_to {g : Int → Int} {i a b : Int} (hi : 0 ≤ i) : anG g i a b (125 + 80 * i) = -6 ∧ anG g i a b (126 + 80 * i) = b - a + 1 ∧ anG g i a b (187 + 80 * i) = aheadN g a ∧ anG g i a b (196 + 80 * i) = behindN g b := by
  unfold anG
  refine ⟨?_, ?_, ?_, ?_⟩
  · rw [if_neg (by omega), if_pos rfl]
  · rw [if_neg (by omega), if_neg (by omega), if_pos rfl]
  · rw [if_neg (by omega), if_neg (by omega), if_neg (by omega), if_neg (by omega), if_pos rfl]
  · rw [if_neg (by omega), if_neg (by omega), if_neg (by omega), if_neg (by omega), if_neg (by omega), if_neg (by omega), if_pos rfl]
theorem anG_wd {g : Int → Int} {i a b j : Int} (hi : 0 ≤ i) (h0 : 0 ≤ j) (h : j < 60) : anG g i a b (127 + 80 * i + j) = LT g (a + j) := by
  unfold anG
  rw [if_neg (by omega), if_neg (by omega), if_neg (by omega), if_pos (by omega)]
  congr 1; omega
theorem anG_ah {g : Int → Int} {i a b j : Int} (hi : 0 ≤ i) (h0 : 0 ≤ j) (h : j < 8) : anG g i a b (188 + 80 * i + j) = LT g (a - 1 - j) := by
  unfold anG
  rw [if_neg (by omega), if_neg (by omega), if_neg (by omega), if_neg (by omega), if_neg (by omega), if_pos (by omega)]
  congr 1; omega
theorem anG_bh {g : Int → Int} {i a b j : Int} (hi : 0 ≤ i) (h0 : 0 ≤ j) (h : j < 8) : anG g i a b (197 + 80 * i + j) = LT g (b + 1 + j) := by
  unfold anG
  rw [if_neg (by omega), if_neg (by omega), if_neg (by omega), if_neg (by omega), if_neg (by omega), if_neg (by omega), if_neg (by omega), if_pos (by omega)]
  congr 1; omega
theorem anG_neq {g : Int → Int} {i a b k : Int} (hi : 0 ≤ i) (hk : 0 ≤ k) (h : ¬ k = i) (hl : g (125 + 80 * k) = -6 → g (126 + 80 * k) ≤ 60 ∧ g (187 + 80 * k) ≤ 8 ∧ g (196 + 80 * k) ≤ 8) : NEq g (anG g i a b) k := by
  refine ⟨(anG_oth hi (by omega) (by omega)).symm, fun e => ?_⟩
  obtain ⟨h1, h2, h3⟩ := hl e
  exact ⟨(anG_oth hi (by omega) (by omega)).symm, (anG_oth hi (by omega) (by omega)).symm, (anG_oth hi (by omega) (by omega)).symm, fun j a b => (anG_oth hi (by omega) (by omega)).symm, fun j a b => (anG_oth hi (by omega) (by omega)).symm, fun j a b => (anG_oth hi (by omega) (by omega)).symm⟩
theorem NoteIs.an {g : Int → Int} {i a b wl al bl : Int} (hi : 0 ≤ i) (hab : 0 ≤ a ∧ a ≤ b ∧ b < g 0 ∧ g 0 ≤ 60) (hg : 0 ≤ g 2 ∧ g 2 ≤ 8) (hw : wl = b - a + 1) (ha : 0 ≤ al ∧ al ≤ g 2 ∧ al ≤ a ∧ (al = g 2 ∨ al = a)) (hb : 0 ≤ bl ∧ bl ≤ g 2 ∧ b + bl < g 0 ∧ (bl = g 2 ∨ b + 1 + bl = g 0)) :
    NoteIs (anG g i a b) i (-6) wl al bl (fun j => LT g (a + j)) (fun j => LT g (a - 1 - j)) (fun j => LT g (b + 1 + j)) := by
  obtain ⟨e1, e2, e3, e4⟩ := anG_to (g := g) (i := i) (a := a) (b := b) hi
  refine ⟨e1.symm, fun _ => ⟨by rw [e2]; exact hw, ?_, ?_, fun j h0 h1 => (anG_wd hi h0 (by omega)).symm, fun j h0 h1 => (anG_ah hi h0 (by omega)).symm, fun j h0 h1 => (anG_bh hi h0 (by omega)).symm⟩⟩
  · rw [e3]; unfold aheadN; split <;> omega
  · rw [e4]; unfold behindN; split <;> omega
/-- the numbers of a note with a passage -/
theorem PInv.nt {g : Int → Int} (h : PInv g) {i : Int} (h0 : 0 ≤ i) (h1 : i < g 1) (e : g (125 + 80 * i) = -6) : 1 ≤ g (126 + 80 * i) ∧ g (126 + 80 * i) ≤ 60 ∧ 0 ≤ g (187 + 80 * i) ∧ g (187 + 80 * i) ≤ 8 ∧ 0 ≤ g (196 + 80 * i) ∧ g (196 + 80 * i) ≤ 8 ∧ (∀ j : Int, 0 ≤ j → j < g (126 + 80 * i) → 0 ≤ g (127 + 80 * i + j) ∧ g (127 + 80 * i + j) ≤ 25) ∧ (∀ j : Int, 0 ≤ j → j < g (187 + 80 * i) → 0 ≤ g (188 + 80 * i + j) ∧ g (188 + 80 * i + j) ≤ 25) ∧ (∀ j : Int, 0 ≤ j → j < g (196 + 80 * i) → 0 ≤ g (197 + 80 * i + j) ∧ g (197 + 80 * i + j) ≤ 25) := by
  obtain ⟨a1, a2, a3, a4, a5, a6, a7, a8, a9, a10, a11, a12, a13⟩ := h
  rcases a13 i h0 h1 with q | q
  · exact q.2
  · omega


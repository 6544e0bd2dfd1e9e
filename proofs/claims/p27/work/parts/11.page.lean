/-! a page: its state is laid flat, as one function of whole numbers: 0 letters, 1 notes, 2 to 4 settings, 5 on letters, 65 on owners, 125 + 80 i on note i: whose reply, words, ahead, behind -/
abbrev LT (g : Int → Int) : Int → Int := fun i => g (5 + i)
abbrev OW (g : Int → Int) : Int → Int := fun i => g (65 + i)
/-- what a note's cells hold of note i of the state -/
def NoteIs (g : Int → Int) (i t wl al bl : Int) (w a b : Int → Int) : Prop :=
  t = g (125 + 80 * i) ∧ (t = -6 → wl = g (126 + 80 * i) ∧ al = g (187 + 80 * i) ∧ bl = g (196 + 80 * i) ∧ (∀ j : Int, 0 ≤ j → j < wl → w j = g (127 + 80 * i + j)) ∧ (∀ j : Int, 0 ≤ j → j < al → a j = g (188 + 80 * i + j)) ∧ (∀ j : Int, 0 ≤ j → j < bl → b j = g (197 + 80 * i + j)))
/-- one cell of the row of notes -/
def NtAt (D : zD) (g : Int → Int) (i : Int) (q : Nat) (H : Heap) : Prop :=
  ∃ (t wl al bl : Int) (w a b : Int → Int), NoteAt D q t wl al bl w a b H ∧ rg t ∧ (i < g 1 → NoteIs g i t wl al bl w a b)
/-- where the notes stand: the row's places in some order -/
def PgI (pi : Int → Nat) : Prop := (∀ i : Int, 0 ≤ i → i < 16 → pi i < 16) ∧ ∀ i j : Int, 0 ≤ i → i < 16 → 0 ≤ j → j < 16 → pi i = pi j → i = j
def PgN (D : zD) (q : Nat) (g : Int → Int) (H : Heap) : Prop :=
  ∃ pi : Int → Nat, Ra D (q + 7) 2 16 (fun i => some (q + 9 + 7 * pi i)) H ∧ PgI pi ∧ ∀ i : Int, 0 ≤ i → i < 16 → NtAt D g i (q + 9 + 7 * pi i) H
def PgP (D : zD) (q : Nat) (H : Heap) : Prop := ∃ a b c d : Int, Ob D (q + 8) 5 [.int (J a), .int (J b), .int (J c), .int (J d)] H
def PgO (D : zD) (q : Nat) (k : Int) (H : Heap) : Prop := Ob D q 4 [.ref (q + 1), .ref (q + 3), .ref (q + 5), .ref (q + 7), .int (J k), .ref (q + 8)] H
def PageAt (D : zD) (q : Nat) (g : Int → Int) (H : Heap) : Prop :=
  PgO D q (g 1) H ∧ RowAt D (q + 1) 3 3 (fun i => g (2 + i)) H ∧ RowAt D (q + 3) 60 (g 0) (LT g) H ∧ RowAt D (q + 5) 60 (g 0) (OW g) H ∧ PgN D q g H ∧ PgP D q H ∧ 0 ≤ g 1 ∧ g 1 ≤ 16
theorem NtAt.fr {D : zD} {g : Int → Int} {i : Int} {q x y d : Nat} {H H' : Heap} (h : NtAt D g i q H) (fr : Fr (Iv x y) d H H') (e : q + 7 ≤ x ∨ y ≤ q) : NtAt D g i q H' := by
  obtain ⟨t, wl, al, bl, w, a, b, h1, h2⟩ := h
  exact ⟨t, wl, al, bl, w, a, b, h1.fr fr e, h2⟩
theorem PgN.fr {D : zD} {q x y d : Nat} {g : Int → Int} {H H' : Heap} (h : PgN D q g H) (fr : Fr (Iv x y) d H H') (e : q + 121 ≤ x ∨ y ≤ q + 7 ∨ (q + 8 ≤ x ∧ y ≤ q + 9)) : PgN D q g H' := by
  obtain ⟨pi, h1, h2, h3⟩ := h
  exact ⟨pi, h1.fr fr (by omega), h2, fun i h0 h4 => (h3 i h0 h4).fr fr (by have := h2.1 i h0 h4; omega)⟩
theorem PgP.fr {D : zD} {q x y d : Nat} {H H' : Heap} (h : PgP D q H) (fr : Fr (Iv x y) d H H') (e : q + 9 ≤ x ∨ y ≤ q + 8) : PgP D q H' := by
  obtain ⟨a, b, c, d, h⟩ := h
  exact ⟨a, b, c, d, Ob.fr h fr (by omega)⟩
theorem PgO.fr {D : zD} {q x y d : Nat} {k : Int} {H H' : Heap} (h : PgO D q k H) (fr : Fr (Iv x y) d H H') (e : q + 1 ≤ x ∨ y ≤ q) : PgO D q k H' := Ob.fr h fr (by omega)
theorem PageAt.fr {D : zD} {q x y d : Nat} {g : Int → Int} {H H' : Heap} (h : PageAt D q g H) (fr : Fr (Iv x y) d H H') (e : q + 121 ≤ x ∨ y ≤ q) : PageAt D q g H' := by
  obtain ⟨h1, h2, h3, h4, h5, h6, h7⟩ := h
  exact ⟨h1.fr fr (by omega), h2.fr fr (by omega), h3.fr fr (by omega), h4.fr fr (by omega), h5.fr fr (by omega), h6.fr fr (by omega), h7⟩
theorem PageAt.lt {D : zD} {q : Nat} {g : Int → Int} {H : Heap} (h : PageAt D q g H) : q + 8 < H.size := by
  obtain ⟨h1, h2, h3, h4, h5, ⟨a, b, c, d, h6⟩, h7⟩ := h
  exact h6.lt
/-- two states that hold the same as far as it counts -/
def NEq (g g' : Int → Int) (i : Int) : Prop := g (125 + 80 * i) = g' (125 + 80 * i) ∧ (g (125 + 80 * i) = -6 → g (126 + 80 * i) = g' (126 + 80 * i) ∧ g (187 + 80 * i) = g' (187 + 80 * i) ∧ g (196 + 80 * i) = g' (196 + 80 * i) ∧ (∀ j : Int, 0 ≤ j → j < g (126 + 80 * i) → g (127 + 80 * i + j) = g' (127 + 80 * i + j)) ∧ (∀ j : Int, 0 ≤ j → j < g (187 + 80 * i) → g (188 + 80 * i + j) = g' (188 + 80 * i + j)) ∧ (∀ j : Int, 0 ≤ j → j < g (196 + 80 * i) → g (197 + 80 * i + j) = g' (197 + 80 * i + j)))
def MEq (g g' : Int → Int) : Prop := (∀ j : Int, 0 ≤ j → j < 5 → g j = g' j) ∧ (∀ i : Int, 0 ≤ i → i < g 0 → g (5 + i) = g' (5 + i) ∧ g (65 + i) = g' (65 + i)) ∧ ∀ i : Int, 0 ≤ i → i < g 1 → NEq g g' i
theorem NEq.refl (g : Int → Int) (i : Int) : NEq g g i := ⟨rfl, fun _ => ⟨rfl, rfl, rfl, fun _ _ _ => rfl, fun _ _ _ => rfl, fun _ _ _ => rfl⟩⟩
theorem MEq.refl (g : Int → Int) : MEq g g := ⟨fun _ _ _ => rfl, fun _ _ _ => ⟨rfl, rfl⟩, fun i _ _ => NEq.refl g i⟩
theorem NEq.symm {g g' : Int → Int} {i : Int} (h : NEq g g' i) : NEq g' g i := by
  refine ⟨h.1.symm, fun e => ?_⟩
  obtain ⟨h1, h2, h3, h4, h5, h6⟩ := h.2 (by rw [h.1]; exact e)
  exact ⟨h1.symm, h2.symm, h3.symm, fun j a b => (h4 j a (by rw [h1]; exact b)).symm, fun j a b => (h5 j a (by rw [h2]; exact b)).symm, fun j a b => (h6 j a (by rw [h3]; exact b)).symm⟩
theorem NEq.trans {g g' g2 : Int → Int} {i : Int} (h : NEq g g' i) (h' : NEq g' g2 i) : NEq g g2 i := by
  refine ⟨h.1.trans h'.1, fun e => ?_⟩
  obtain ⟨h1, h2, h3, h4, h5, h6⟩ := h.2 e
  obtain ⟨k1, k2, k3, k4, k5, k6⟩ := h'.2 (by rw [← h.1]; exact e)
  exact ⟨h1.trans k1, h2.trans k2, h3.trans k3, fun j a b => (h4 j a b).trans (k4 j a (by rw [← h1]; exact b)), fun j a b => (h5 j a b).trans (k5 j a (by rw [← h2]; exact b)), fun j a b => (h6 j a b).trans (k6 j a (by rw [← h3]; exact b))⟩
theorem MEq.symm {g g' : Int → Int} (h : MEq g g') : MEq g' g := by
  have e0 := h.1 0 (by omega) (by omega)
  have e1 := h.1 1 (by omega) (by omega)
  exact ⟨fun j a b => (h.1 j a b).symm, fun i a b => ⟨(h.2.1 i a (by omega)).1.symm, (h.2.1 i a (by omega)).2.symm⟩, fun i a b => (h.2.2 i a (by omega)).symm⟩
theorem MEq.trans {g g' g2 : Int → Int} (h : MEq g g') (h' : MEq g' g2) : MEq g g2 := by
  have e0 := h.1 0 (by omega) (by omega)
  have e1 := h.1 1 (by omega) (by omega)
  exact ⟨fun j a b => (h.1 j a b).trans (h'.1 j a b), fun i a b => ⟨(h.2.1 i a b).1.trans (h'.2.1 i a (by omega)).1, (h.2.1 i a b).2.trans (h'.2.1 i a (by omega)).2⟩, fun i a b => (h.2.2 i a b).trans (h'.2.2 i a (by omega))⟩
theorem NoteIs.congr {g g' : Int → Int} {i t wl al bl : Int} {w a b : Int → Int} (h : NoteIs g i t wl al bl w a b) (e : NEq g g' i) : NoteIs g' i t wl al bl w a b := by
  refine ⟨h.1.trans e.1, fun q => ?_⟩
  obtain ⟨h1, h2, h3, h4, h5, h6⟩ := h.2 q
  obtain ⟨e1, e2, e3, e4, e5, e6⟩ := e.2 (by rw [← h.1]; exact q)
  exact ⟨h1.trans e1, h2.trans e2, h3.trans e3, fun j a b => (h4 j a b).trans (e4 j a (by rw [← h1]; exact b)), fun j a b => (h5 j a b).trans (e5 j a (by rw [← h2]; exact b)), fun j a b => (h6 j a b).trans (e6 j a (by rw [← h3]; exact b))⟩
theorem NtAt.congr {D : zD} {g g' : Int → Int} {i : Int} {q : Nat} {H : Heap} (h : NtAt D g i q H) (e1 : g 1 = g' 1) (e : i < g 1 → NEq g g' i) : NtAt D g' i q H := by
  obtain ⟨t, wl, al, bl, w, a, b, h1, h2, h3⟩ := h
  exact ⟨t, wl, al, bl, w, a, b, h1, h2, fun q => (h3 (by omega)).congr (e (by omega))⟩
theorem PgN.congr {D : zD} {q : Nat} {g g' : Int → Int} {H : Heap} (h : PgN D q g H) (e1 : g 1 = g' 1) (e : ∀ i : Int, 0 ≤ i → i < g 1 → NEq g g' i) : PgN D q g' H := by
  obtain ⟨pi, h1, h2, h3⟩ := h
  exact ⟨pi, h1, h2, fun i h0 h4 => (h3 i h0 h4).congr e1 (fun q => e i h0 q)⟩
theorem NEq.of {g g' : Int → Int} {i : Int} (h0 : 0 ≤ i) (h : ∀ j : Int, 125 ≤ j → g j = g' j) : NEq g g' i :=
  ⟨h _ (by omega), fun _ => ⟨h _ (by omega), h _ (by omega), h _ (by omega), fun j a _ => h _ (by omega), fun j a _ => h _ (by omega), fun j a _ => h _ (by omega)⟩⟩
theorem PgN.hi {D : zD} {q : Nat} {g g' : Int → Int} {H : Heap} (h : PgN D q g H) (e1 : g 1 = g' 1) (e : ∀ j : Int, 125 ≤ j → g j = g' j) : PgN D q g' H := h.congr e1 (fun i h0 _ => NEq.of h0 e)
theorem PageAt.congr {D : zD} {q : Nat} {g g' : Int → Int} {H : Heap} (h : PageAt D q g H) (e : MEq g g') : PageAt D q g' H := by
  obtain ⟨h1, h2, h3, h4, h5, h6, h7⟩ := h
  have e0 := e.1 0 (by omega) (by omega)
  have e1 := e.1 1 (by omega) (by omega)
  refine ⟨by rw [← e1]; exact h1, h2.congr (fun i a b => e.1 _ (by omega) (by omega)), ?_, ?_, h5.congr e1 e.2.2, h6, by omega⟩
  · rw [← e0]; exact h3.congr (fun i a b => (e.2.1 i a b).1)
  · rw [← e0]; exact h4.congr (fun i a b => (e.2.1 i a b).2)
/-- a state as the calls leave it -/
def PInv (g : Int → Int) : Prop :=
  0 ≤ g 0 ∧ g 0 ≤ 60 ∧ 0 ≤ g 1 ∧ g 1 ≤ 16 ∧ 0 ≤ g 2 ∧ g 2 ≤ 8 ∧ 1 ≤ g 3 ∧ g 3 ≤ 60 ∧ 1 ≤ g 4 ∧ g 4 ≤ 9 ∧
  (∀ i : Int, 0 ≤ i → i < g 0 → 0 ≤ g (5 + i) ∧ g (5 + i) ≤ 25) ∧
  (∀ i : Int, 0 ≤ i → i < g 0 → 0 ≤ g (65 + i) ∧ g (65 + i) < 65536 ∧ ∀ n : Int, isin (g (65 + i)) n → n < g 1 ∧ g (125 + 80 * n) = -6) ∧
  (∀ i : Int, 0 ≤ i → i < g 1 → (g (125 + 80 * i) = -6 ∧ 1 ≤ g (126 + 80 * i) ∧ g (126 + 80 * i) ≤ 60 ∧ 0 ≤ g (187 + 80 * i) ∧ g (187 + 80 * i) ≤ 8 ∧ 0 ≤ g (196 + 80 * i) ∧ g (196 + 80 * i) ≤ 8 ∧ (∀ j : Int, 0 ≤ j → j < g (126 + 80 * i) → 0 ≤ g (127 + 80 * i + j) ∧ g (127 + 80 * i + j) ≤ 25) ∧ (∀ j : Int, 0 ≤ j → j < g (187 + 80 * i) → 0 ≤ g (188 + 80 * i + j) ∧ g (188 + 80 * i + j) ≤ 25) ∧ (∀ j : Int, 0 ≤ j → j < g (196 + 80 * i) → 0 ≤ g (197 + 80 * i + j) ∧ g (197 + 80 * i + j) ≤ 25)) ∨ (0 ≤ g (125 + 80 * i) ∧ g (125 + 80 * i) < i))


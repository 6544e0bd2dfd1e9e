/-! the object of the program itself -/
/-- what a call of its methods may write: its own cells, and those at lo or behind -/
def Fx (x lo : Nat) (H H' : Heap) : Prop := H.size ≤ H'.size ∧ ∀ p : Nat, p < H.size → p < lo → ¬ (x ≤ p ∧ p < x + 140) → H'[p]? = H[p]?
theorem Fx.refl (x lo : Nat) (H : Heap) : Fx x lo H H := ⟨Nat.le_refl _, fun _ _ _ _ => rfl⟩
theorem Fx.trans {x lo : Nat} {H1 H2 H3 : Heap} (h : Fx x lo H1 H2) (h' : Fx x lo H2 H3) : Fx x lo H1 H3 :=
  ⟨Nat.le_trans h.1 h'.1, fun p a b c => (h'.2 p (Nat.lt_of_lt_of_le a h.1) b c).trans (h.2 p a b c)⟩
theorem Fx.of {x lo a b d : Nat} {H H' : Heap} (h : Fr (Iv a b) d H H') (e : (x ≤ a ∧ b ≤ x + 140) ∨ lo ≤ a) : Fx x lo H H' :=
  ⟨by have := h.1; omega, fun p h1 h2 h3 => h.2 p h1 (Iv.off (by omega))⟩
/-- what a question may write: its own cells, and no new ones -/
def Fz (x _lo : Nat) (H H' : Heap) : Prop := Fr (Iv x (x + 140)) 0 H H'
theorem Fz.refl (x lo : Nat) (H : Heap) : Fz x lo H H := Fr.refl _ _
theorem Fz.trans {x lo : Nat} {H1 H2 H3 : Heap} (h : Fz x lo H1 H2) (h' : Fz x lo H2 H3) : Fz x lo H1 H3 := Fr.trans0 h h'
theorem Fz.of {x lo a b : Nat} {H H' : Heap} (h : Fr (Iv a b) 0 H H') (e : x ≤ a ∧ b ≤ x + 140) : Fz x lo H H' := h.wide e.1 e.2
def MgE (D : zD) (w : Nat) (H : Heap) : Prop := ∃ (k u : Int) (F L E U : Int → Int) (la al lo : Int), MgAt D w k u F L E U la al lo H
def ScE (D : zD) (s : Nat) (H : Heap) : Prop := ∃ a b c : Int, Ob D s 7 [.int (J a), .int (J b), .int (J c)] H
def RdE (D : zD) (w : Nat) (H : Heap) : Prop := ∃ (nx kd lf cn : Int) (fn : Int → Int), RdAt D w nx kd lf cn fn H
theorem MgE.fr {D : zD} {w a b d : Nat} {H H' : Heap} (h : MgE D w H) (f : Fr (Iv a b) d H H') (e : w + 9 ≤ a ∨ b ≤ w) : MgE D w H' := by
  obtain ⟨k, u, F, L, E, U, la, al, lo, h⟩ := h
  exact ⟨k, u, F, L, E, U, la, al, lo, h.fr f e⟩
theorem ScE.fr {D : zD} {w a b d : Nat} {H H' : Heap} (h : ScE D w H) (f : Fr (Iv a b) d H H') (e : w + 1 ≤ a ∨ b ≤ w) : ScE D w H' := by
  obtain ⟨p, q, r, h⟩ := h
  exact ⟨p, q, r, h.fr f (by omega)⟩
theorem RdE.fr {D : zD} {w a b d : Nat} {H H' : Heap} (h : RdE D w H) (f : Fr (Iv a b) d H H') (e : w + 3 ≤ a ∨ b ≤ w) : RdE D w H' := by
  obtain ⟨p, q, r, s, t, h⟩ := h
  exact ⟨p, q, r, s, t, h.fr f e⟩
/-- the saved pages, apart from those of the history -/
def SlAt (D : zD) (s lo : Nat) (sa sl : Int → Option Nat) (ss : Int → Int → Int) (H : Heap) : Prop :=
  Ra D s 3 2 sl H ∧ PgsOk D lo 2 sl H ∧ (∀ (j : Int) (b : Nat), 0 ≤ j → j < 2 → sl j = some b → PageAt D b (ss j) H) ∧
  ∀ (i j : Int) (a b : Nat), 0 ≤ i → i < 7 → 0 ≤ j → j < 2 → sa i = some a → sl j = some b → a + 121 ≤ b ∨ b + 121 ≤ a
theorem SlAt.fr {D : zD} {s lo x y d : Nat} {sa sl : Int → Option Nat} {ss : Int → Int → Int} {H H' : Heap} (h : SlAt D s lo sa sl ss H) (f : Fr (Iv x y) d H H') (e : y ≤ lo ∧ (s + 1 ≤ x ∨ y ≤ s)) : SlAt D s lo sa sl ss H' := by
  obtain ⟨h1, h2, h3, h4⟩ := h
  exact ⟨h1.fr f (by omega), h2.fr f e.1, fun j b a0 a1 a2 => (h3 j b a0 a1 a2).fr f (by have := (h2.1 j b a0 a1 a2).1; omega), h4⟩
theorem SlAt.off {D : zD} {s lo a d : Nat} {sa sl : Int → Option Nat} {ss : Int → Int → Int} {H H' : Heap} (h : SlAt D s lo sa sl ss H) (f : Fr (Iv a (a + 121)) d H H') (e : s + 1 ≤ a) (e2 : ∀ (j : Int) (b : Nat), 0 ≤ j → j < 2 → sl j = some b → a + 121 ≤ b ∨ b + 121 ≤ a) : SlAt D s lo sa sl ss H' := by
  obtain ⟨h1, h2, h3, h4⟩ := h
  refine ⟨h1.fr f (by omega), ⟨fun j b a0 a1 a2 => ?_, h2.2⟩, fun j b a0 a1 a2 => (h3 j b a0 a1 a2).fr f (by have := e2 j b a0 a1 a2; omega), h4⟩
  obtain ⟨k1, k2, gg, k3⟩ := h2.1 j b a0 a1 a2
  exact ⟨k1, by have := f.1; omega, gg, k3.fr f (by have := e2 j b a0 a1 a2; omega)⟩
def AnAt (D : zD) (x lo : Nat) (m : Int) (sa sl : Int → Option Nat) (st ss : Int → Int → Int) (g : Int → Int) (n : Int) (f : Int → Int) (H : Heap) : Prop :=
  Ob D x 8 [.ref (x + 1), .ref (x + 122), .ref (x + 131), .ref (x + 132), .ref (x + 134), .ref (x + 137), .ref (x + 139)] H ∧ PageAt D (x + 1) g H ∧ MgE D (x + 122) H ∧ ScE D (x + 131) H ∧ RowAt D (x + 132) 80 n f H ∧ RdE D (x + 134) H ∧ HsAt D (x + 137) lo sa m st H ∧ SlAt D (x + 139) lo sa sl ss H
section
variable {D : zD} {x lo : Nat} {m : Int} {sa sl : Int → Option Nat} {st ss : Int → Int → Int} {g g' : Int → Int} {n : Int} {f : Int → Int} {H H1 H' : Heap}
theorem AnAt.keep (h : AnAt D x lo m sa sl st ss g n f H) (hlo : x + 140 ≤ lo) (hls : lo ≤ H.size)
    (hk : ∃ (sa2 : Int → Option Nat) (a d : Nat) (Ha : Heap), (d = 0 ∨ d = 121) ∧ Fr (Iv (x + 137) (x + 137 + 2)) d H Ha ∧ Fr (Iv a (a + 121)) 0 Ha H1 ∧ sa2 m = some a ∧ (∀ i : Int, ¬ i = m → sa2 i = sa i) ∧ (sa m = some a ∨ (sa m = none ∧ a = H.size)) ∧ HsAt D (x + 137) lo sa2 m st H1 ∧ PageAt D a g H1 ∧ PageAt D (x + 1) g H1) :
    ∃ (sa2 : Int → Option Nat) (a : Nat), sa2 m = some a ∧ lo ≤ a ∧ AnAt D x lo m sa2 sl st ss g n f H1 ∧ PageAt D a g H1 ∧ Fx x lo H H1 := by
  obtain ⟨hO, hPg, hMg, hSc, hPd, hRd, hHs, hSl⟩ := h
  obtain ⟨sa2, a, d, Ha, hd, f1, f2, e1, e2, e3, hHs2, hPa, hPq⟩ := hk
  have hm0 : 0 ≤ m ∧ m ≤ 6 := hHs.2.2.2.2
  have hal : lo ≤ a := by
    rcases e3 with e | ⟨-, e⟩
    · exact (hHs.2.2.1.1 m a hm0.1 (by omega) e).1
    · omega
  have hoff : ∀ (j : Int) (b : Nat), 0 ≤ j → j < 2 → sl j = some b → a + 121 ≤ b ∨ b + 121 ≤ a := fun j b j0 j1 hb => by
    rcases e3 with e | ⟨-, e⟩
    · exact hSl.2.2.2 m j a b hm0.1 (by omega) j0 j1 e hb
    · have := (hSl.2.1.1 j b j0 j1 hb).2.1
      omega
  have hS1 := (hSl.fr f1 (by omega)).off f2 (by omega) hoff
  refine ⟨sa2, a, e1, hal, ⟨(hO.fr f1 (by omega)).fr f2 (by omega), hPq, (hMg.fr f1 (by omega)).fr f2 (by omega), (hSc.fr f1 (by omega)).fr f2 (by omega), (hPd.fr f1 (by omega)).fr f2 (by omega), (hRd.fr f1 (by omega)).fr f2 (by omega), hHs2, ⟨hS1.1, hS1.2.1, hS1.2.2.1, fun i j b c i0 i1 j0 j1 hb hc => ?_⟩⟩, hPa, (Fx.of f1 (by omega)).trans (Fx.of f2 (by omega))⟩
  by_cases c1 : i = m
  · rw [c1, e1] at hb
    cases hb
    exact hoff j c j0 j1 hc
  · rw [e2 i c1] at hb
    exact hSl.2.2.2 i j b c i0 i1 j0 j1 hb hc
theorem AnAt.page {d : Nat} (h : AnAt D x lo m sa sl st ss g n f H) (fr : Fr (Iv (x + 1) (x + 1 + 121)) d H H1) (hp : PageAt D (x + 1) g' H1) (hlo : x + 140 ≤ lo) : AnAt D x lo m sa sl st ss g' n f H1 := by
  obtain ⟨hO, hPg, hMg, hSc, hPd, hRd, hHs, hSl⟩ := h
  exact ⟨hO.fr fr (by omega), hp, hMg.fr fr (by omega), hSc.fr fr (by omega), hPd.fr fr (by omega), hRd.fr fr (by omega), hHs.fr fr (by omega), hSl.fr fr (by omega)⟩
theorem AnAt.srch {d : Nat} (h : AnAt D x lo m sa sl st ss g n f H) (fr : Fr (Iv (x + 131) (x + 131 + 1)) d H H1) (hp : ScE D (x + 131) H1) (hlo : x + 140 ≤ lo) : AnAt D x lo m sa sl st ss g n f H1 := by
  obtain ⟨hO, hPg, hMg, hSc, hPd, hRd, hHs, hSl⟩ := h
  exact ⟨hO.fr fr (by omega), hPg.fr fr (by omega), hMg.fr fr (by omega), hp, hPd.fr fr (by omega), hRd.fr fr (by omega), hHs.fr fr (by omega), hSl.fr fr (by omega)⟩
theorem AnAt.marg {d : Nat} (h : AnAt D x lo m sa sl st ss g n f H) (fr : Fr (Iv (x + 122) (x + 122 + 9)) d H H1) (hp : MgE D (x + 122) H1) (hlo : x + 140 ≤ lo) : AnAt D x lo m sa sl st ss g n f H1 := by
  obtain ⟨hO, hPg, hMg, hSc, hPd, hRd, hHs, hSl⟩ := h
  exact ⟨hO.fr fr (by omega), hPg.fr fr (by omega), hp, hSc.fr fr (by omega), hPd.fr fr (by omega), hRd.fr fr (by omega), hHs.fr fr (by omega), hSl.fr fr (by omega)⟩
theorem AnAt.pad {d : Nat} {n' : Int} {f' : Int → Int} (h : AnAt D x lo m sa sl st ss g n f H) (fr : Fr (Iv (x + 132) (x + 132 + 2)) d H H1) (hp : RowAt D (x + 132) 80 n' f' H1) (hlo : x + 140 ≤ lo) : AnAt D x lo m sa sl st ss g n' f' H1 := by
  obtain ⟨hO, hPg, hMg, hSc, hPd, hRd, hHs, hSl⟩ := h
  exact ⟨hO.fr fr (by omega), hPg.fr fr (by omega), hMg.fr fr (by omega), hSc.fr fr (by omega), hp, hRd.fr fr (by omega), hHs.fr fr (by omega), hSl.fr fr (by omega)⟩
theorem AnAt.read {d : Nat} (h : AnAt D x lo m sa sl st ss g n f H) (fr : Fr (Iv (x + 134) (x + 134 + 3)) d H H1) (hp : RdE D (x + 134) H1) (hlo : x + 140 ≤ lo) : AnAt D x lo m sa sl st ss g n f H1 := by
  obtain ⟨hO, hPg, hMg, hSc, hPd, hRd, hHs, hSl⟩ := h
  exact ⟨hO.fr fr (by omega), hPg.fr fr (by omega), hMg.fr fr (by omega), hSc.fr fr (by omega), hPd.fr fr (by omega), hp, hHs.fr fr (by omega), hSl.fr fr (by omega)⟩
/-- what a call that answers v leaves of the history -/
def hsN (m v : Int) : Int := if v < 0 then m else hpN m
def hsS (m v : Int) (st : Int → Int → Int) (g : Int → Int) : Int → Int → Int := if v < 0 then st else hpS m st g
theorem AnAt.conf {v r : Int} (h : AnAt D x lo m sa sl st ss g' n f H) (hlo : x + 140 ≤ lo)
    (hc : v = r ∧ (v < 0 → H = H1) ∧ (¬ v < 0 → ∃ sa2 : Int → Option Nat, HsAt D (x + 137) lo sa2 (hpN m) (hpS m st g) H1 ∧ (∀ (i : Int) (b : Nat), 0 ≤ i → i < 7 → sa2 i = some b → ∃ j : Int, 0 ≤ j ∧ j < 7 ∧ sa j = some b)) ∧ Fr (Iv (x + 137) (x + 137 + 2)) 0 H H1) :
    ∃ sa2 : Int → Option Nat, AnAt D x lo (hsN m v) sa2 sl (hsS m v st g) ss g' n f H1 ∧ Fx x lo H H1 := by
  obtain ⟨hO, hPg, hMg, hSc, hPd, hRd, hHs, hSl⟩ := h
  obtain ⟨-, c1, c2, fr⟩ := hc
  unfold hsN hsS
  by_cases c : v < 0
  · rw [if_pos c, if_pos c, ← c1 c]
    exact ⟨sa, ⟨hO, hPg, hMg, hSc, hPd, hRd, hHs, hSl⟩, Fx.refl _ _ _⟩
  · rw [if_neg c, if_neg c]
    obtain ⟨sa2, k1, k2⟩ := c2 c
    have hS1 := hSl.fr fr (by omega)
    refine ⟨sa2, ⟨hO.fr fr (by omega), hPg.fr fr (by omega), hMg.fr fr (by omega), hSc.fr fr (by omega), hPd.fr fr (by omega), hRd.fr fr (by omega), k1, hS1.1, hS1.2.1, hS1.2.2.1, fun i j a b i0 i1 j0 j1 ha hb => ?_⟩, Fx.of fr (by omega)⟩
    obtain ⟨i2, q0, q1, q2⟩ := k2 i a i0 i1 ha
    exact hSl.2.2.2 i2 j a b q0 q1 j0 j1 q2 hb
end
/-! the answers are small -/
section
variable {g : Int → Int}
theorem popc_rg (m : Int) : 0 ≤ popc m ∧ popc m ≤ 16 := cnt_bd _ 16
theorem setR_rg (hI : PInv g) (s v : Int) : -6 ≤ setR g s v ∧ setR g s v ≤ 100 := by
  have hn := hI.nums
  unfold setR
  split
  · next c =>
    rcases (show s = 0 ∨ s = 1 ∨ s = 2 by omega) with e | e | e <;> rw [e]
    · show -6 ≤ g 2 ∧ g 2 ≤ 100; omega
    · show -6 ≤ g 3 ∧ g 3 ≤ 100; omega
    · show -6 ≤ g 4 ∧ g 4 ≤ 100; omega
  · omega
theorem wrR_rg (hI : PInv g) (p c : Int) : -6 ≤ wrR g p c ∧ wrR g p c ≤ 100 := by
  have hn := hI.nums
  unfold wrR
  (repeat' split) <;> omega
theorem erR_rg (a b : Int) : -6 ≤ erR g a b ∧ erR g a b ≤ 100 := by
  have h1 := perr_bd g a b
  have h2 := popc_rg (ors g a b)
  unfold erR
  split <;> omega
theorem mvR_rg (hI : PInv g) (a b p : Int) : -6 ≤ mvR g a b p ∧ mvR g a b p ≤ 100 := by
  have hn := hI.nums
  have h1 := perr_bd g a b
  have h2 : -2 ≤ mverr g a b p ∧ mverr g a b p ≤ 0 := by unfold mverr; (repeat' split) <;> omega
  have h3 := cnt_bd (fun n => decide (1 < ntP (mvG g a b p) n)) (mvG g a b p 1).toNat
  have h4 : mvG g a b p 1 = g 1 := mvG_at.1 1 (by omega) (by omega)
  have h5 : ptd (mvG g a b p) = cnt (fun n => decide (1 < ntP (mvG g a b p) n)) (mvG g a b p 1).toNat := rfl
  unfold mvR
  split <;> omega
theorem ntR_rg (hI : PInv g) (a b : Int) : -6 ≤ ntR g a b ∧ ntR g a b ≤ 100 := by
  have hn := hI.nums
  have h1 := perr_bd g a b
  unfold ntR
  (repeat' split) <;> omega
theorem rpR_rg (hI : PInv g) (n : Int) : -6 ≤ rpR g n ∧ rpR g n ≤ 100 := by
  have hn := hI.nums
  unfold rpR
  (repeat' split) <;> omega
theorem dpR_rg (n : Int) : -6 ≤ dpR g n ∧ dpR g n ≤ 100 := by
  have h2 := popc_rg (famS g n)
  unfold dpR
  split <;> omega
theorem rcR_rg (hI : PInv g) (n : Int) : -6 ≤ rcR g n ∧ rcR g n ≤ 100 := by
  have hn := hI.nums
  unfold rcR
  split
  · omega
  · next c =>
    split
    · omega
    · next c2 =>
      have ht : tgt g n = -6 := by
        have c3 : stt g n = 1 := Decidable.not_not.mp c2
        unfold stt at c3
        split at c3
        · omega
        · next z => exact Decidable.not_not.mp z
      have hb := bst_bd hI (Decidable.not_not.mp c).1 (Decidable.not_not.mp c).2 ht
      split <;> omega
end
abbrev rm_X8_set : Room := { frames := 5, cells := 121, slots := 4272, locals := 148 }
theorem zF_X8_set_49 : zF RX8 wsX8_set 8 5 49 := ⟨RX8, TX8, 7, rfl, by decide +kernel, by decide, by decide +kernel⟩
theorem zF_X8_set_10 : zF RX8 wsX8_set 8 0 10 := ⟨RX8, TX8, 7, rfl, by decide +kernel, by decide, by decide +kernel⟩
theorem cs_X8_set_57 : zCV RX8 wsX8_set 57 0 yX0_keep wsX0_keep cX0_keep 3 none rm_X8_set rm_X0_keep 1 := ⟨_, _, gX8_set_X0_keep, rfl, ⟨by decide +kernel, by decide +kernel, by decide +kernel⟩, ⟨Nat.le_of_ble_eq_true rfl, Nat.le_of_ble_eq_true rfl⟩, rfl, rfl⟩
theorem cs_X8_set_61 : zCV RX8 wsX8_set 61 4 yX4_changeSetting wsX4_changeSetting cX4_changeSetting 4 (some .int) rm_X8_set rm_X4_changeSetting 2 := ⟨_, _, gX8_set_X4_changeSetting, rfl, ⟨by decide +kernel, by decide +kernel, by decide +kernel⟩, ⟨Nat.le_of_ble_eq_true rfl, Nat.le_of_ble_eq_true rfl⟩, rfl, rfl⟩
theorem cs_X8_set_65 : zCV RX8 wsX8_set 65 0 yX0_confirm wsX0_confirm cX0_confirm 2 (some .int) rm_X8_set rm_X0_confirm 1 := ⟨_, _, gX8_set_X0_confirm, rfl, ⟨by decide +kernel, by decide +kernel, by decide +kernel⟩, ⟨Nat.le_of_ble_eq_true rfl, Nat.le_of_ble_eq_true rfl⟩, rfl, rfl⟩
set_option maxRecDepth 100000 in
theorem c_X8_set (l : Launch) (D : zD) (base : Nat) (x lo : Nat) (m : Int) (sa sl : Int → Option Nat) (st ss : Int → Int → Int) (g : Int → Int) (n : Int) (f : Int → Int) (e w : Int) (hq : base ≤ x) (hlo : x + 140 ≤ lo) (hI : PInv g) (he : rg e) (hw : rg w) : Ct l yX8_set wsX8_set rm_X8_set D base [.ref x, .int (J e), .int (J w)] (fun H => AnAt D x lo m sa sl st ss g n f H ∧ lo ≤ H.size) (PI (fun H v H1 => setR g e w = v ∧ ∃ sa2 : Int → Option Nat, AnAt D x lo (hsN m (setR g e w)) sa2 sl (hsS m (setR g e w) st g) ss (setG g e w) n f H1 ∧ Fx x lo H H1)) := by
  refine Ct.of (own := RX8) (cc := cX8_set) (maxL := 3) (by decide +kernel) rfl (Nat.le_of_ble_eq_true rfl) rfl ?_
  intro K H X R hH hnm hP
  show G K 0 0 H 0 [(0, .ref x), (1, .int (J e)), (2, .int (J w))] []
  obtain ⟨hA, hls⟩ := hP
  obtain ⟨hO, hPg, hMg, hSc, hPd, hRd, hHs, hSl⟩ := id hA
  have hm0 : 0 ≤ m ∧ m ≤ 6 := hHs.2.2.2.2
  refine g_aload_n (pc := 0) (pl := 0) X dX8_set_0 rfl ?_
  refine g_getf (pc := 1) X zF_X8_set_49 hO rfl dX8_set_1 ?_
  refine g_aload_n (pc := 4) (pl := 0) X dX8_set_4 rfl ?_
  refine g_getf (pc := 5) X zF_X8_set_10 hO rfl dX8_set_5 ?_
  obtain ⟨hHO, -⟩ := id hHs
  refine gVv (pc := 8) (n2 := 121) (k2 := 4272) X cs_X8_set_57 (c_X0_keep (zl K) D base (x + 137) lo (x + 1) m sa st g (by omega) (by omega) (by omega) (by omega)) rfl hHO (by omega) ⟨hHs, hPg, hls⟩ rfl ⟨(Nat.le_of_ble_eq_true rfl), (Nat.le_of_ble_eq_true rfl)⟩ dX8_set_8 (Nat.le_of_ble_eq_true rfl) rfl rfl (fun H1 hp8 hs8 => ?_)
  obtain ⟨sa1, a1, hsa, hal, hA1, hPa, hF1⟩ := hA.keep hlo hls hp8
  clear hA hHO hO hPg hMg hSc hPd hRd hHs hSl
  have hA := hA1
  clear hA1
  obtain ⟨hO, hPg, hMg, hSc, hPd, hRd, hHs, hSl⟩ := id hA
  refine g_aload_n (pc := 11) (pl := 0) X dX8_set_11 rfl ?_
  refine g_getf (pc := 12) X zF_X8_set_49 hO rfl dX8_set_12 ?_
  refine g_aload_n (pc := 15) (pl := 0) X dX8_set_15 rfl ?_
  refine g_getf (pc := 16) X zF_X8_set_10 hO rfl dX8_set_16 ?_
  refine g_iload_n (pc := 19) (pl := 1) X dX8_set_19 rfl ?_
  refine g_iload_n (pc := 20) (pl := 2) X dX8_set_20 rfl ?_
  obtain ⟨hPO, -⟩ := id hPg
  refine gVi (pc := 21) (n2 := 121) (k2 := 4272) X cs_X8_set_61 (c_X4_changeSetting (zl K) D base (x + 1) g e w (by omega) hI he hw) rfl hPO (by omega) hPg rfl ⟨Nat.le_of_ble_eq_true rfl, Nat.le_of_ble_eq_true rfl⟩ dX8_set_21 (Nat.le_of_ble_eq_true rfl) rfl rfl (fun v21 H2 hp21 hs21 => ?_)
  obtain ⟨rfl, hPn, hf21p⟩ := hp21
  have hA1 := hA.page hf21p hPn hlo
  have hPa1 := hPa.fr hf21p (by omega)
  have hF2 := hF1.trans (Fx.of hf21p (by omega))
  clear hA hPa hPO hO hPg hMg hSc hPd hRd hHs hSl
  have hA := hA1
  have hPa := hPa1
  clear hA1 hPa1
  obtain ⟨hO, hPg, hMg, hSc, hPd, hRd, hHs, hSl⟩ := id hA
  obtain ⟨hHO, -⟩ := id hHs
  refine gVi (pc := 24) (n2 := 121) (k2 := 4272) X cs_X8_set_65 (c_X0_confirm (zl K) D base (x + 137) lo m (setR g e w) sa1 st a1 g (by omega) (by have := setR_rg hI e w; omega) (by omega) hsa) rfl hHO (by omega) ⟨hHs, hPa⟩ rfl ⟨Nat.le_of_ble_eq_true rfl, Nat.le_of_ble_eq_true rfl⟩ dX8_set_24 (Nat.le_of_ble_eq_true rfl) rfl rfl (fun v24 H3 hp24 hs24 => ?_)
  obtain ⟨sa2, hA2, hF3⟩ := hA.conf hlo hp24
  obtain ⟨rfl, -⟩ := hp24
  refine g_iret (pc := 27) X R hH dX8_set_27 ?_
  exact ⟨rfl, sa2, hA2, hF2.trans hF3⟩

abbrev rm_X8_write : Room := { frames := 5, cells := 121, slots := 4272, locals := 148 }
theorem zF_X8_write_49 : zF RX8 wsX8_write 8 5 49 := ⟨RX8, TX8, 7, rfl, by decide +kernel, by decide, by decide +kernel⟩
theorem zF_X8_write_10 : zF RX8 wsX8_write 8 0 10 := ⟨RX8, TX8, 7, rfl, by decide +kernel, by decide, by decide +kernel⟩
theorem cs_X8_write_57 : zCV RX8 wsX8_write 57 0 yX0_keep wsX0_keep cX0_keep 3 none rm_X8_write rm_X0_keep 1 := ⟨_, _, gX8_write_X0_keep, rfl, ⟨by decide +kernel, by decide +kernel, by decide +kernel⟩, ⟨Nat.le_of_ble_eq_true rfl, Nat.le_of_ble_eq_true rfl⟩, rfl, rfl⟩
theorem cs_X8_write_69 : zCV RX8 wsX8_write 69 4 yX4_writeLetter wsX4_writeLetter cX4_writeLetter 3 (some .int) rm_X8_write rm_X4_writeLetter 2 := ⟨_, _, gX8_write_X4_writeLetter, rfl, ⟨by decide +kernel, by decide +kernel, by decide +kernel⟩, ⟨Nat.le_of_ble_eq_true rfl, Nat.le_of_ble_eq_true rfl⟩, rfl, rfl⟩
theorem cs_X8_write_65 : zCV RX8 wsX8_write 65 0 yX0_confirm wsX0_confirm cX0_confirm 2 (some .int) rm_X8_write rm_X0_confirm 1 := ⟨_, _, gX8_write_X0_confirm, rfl, ⟨by decide +kernel, by decide +kernel, by decide +kernel⟩, ⟨Nat.le_of_ble_eq_true rfl, Nat.le_of_ble_eq_true rfl⟩, rfl, rfl⟩
set_option maxRecDepth 100000 in
theorem c_X8_write (l : Launch) (D : zD) (base : Nat) (x lo : Nat) (m : Int) (sa sl : Int → Option Nat) (st ss : Int → Int → Int) (g : Int → Int) (n : Int) (f : Int → Int) (p c : Int) (hq : base ≤ x) (hlo : x + 140 ≤ lo) (hI : PInv g) (hp : rg p) (hc : rg c) : Ct l yX8_write wsX8_write rm_X8_write D base [.ref x, .int (J p), .int (J c)] (fun H => AnAt D x lo m sa sl st ss g n f H ∧ lo ≤ H.size) (PI (fun H v H1 => wrR g p c = v ∧ ∃ sa2 : Int → Option Nat, AnAt D x lo (hsN m (wrR g p c)) sa2 sl (hsS m (wrR g p c) st g) ss (wrG g p c) n f H1 ∧ Fx x lo H H1)) := by
  refine Ct.of (own := RX8) (cc := cX8_write) (maxL := 3) (by decide +kernel) rfl (Nat.le_of_ble_eq_true rfl) rfl ?_
  intro K H X R hH hnm hP
  show G K 0 0 H 0 [(0, .ref x), (1, .int (J p)), (2, .int (J c))] []
  obtain ⟨hA, hls⟩ := hP
  obtain ⟨hO, hPg, hMg, hSc, hPd, hRd, hHs, hSl⟩ := id hA
  have hm0 : 0 ≤ m ∧ m ≤ 6 := hHs.2.2.2.2
  refine g_aload_n (pc := 0) (pl := 0) X dX8_write_0 rfl ?_
  refine g_getf (pc := 1) X zF_X8_write_49 hO rfl dX8_write_1 ?_
  refine g_aload_n (pc := 4) (pl := 0) X dX8_write_4 rfl ?_
  refine g_getf (pc := 5) X zF_X8_write_10 hO rfl dX8_write_5 ?_
  obtain ⟨hHO, -⟩ := id hHs
  refine gVv (pc := 8) (n2 := 121) (k2 := 4272) X cs_X8_write_57 (c_X0_keep (zl K) D base (x + 137) lo (x + 1) m sa st g (by omega) (by omega) (by omega) (by omega)) rfl hHO (by omega) ⟨hHs, hPg, hls⟩ rfl ⟨(Nat.le_of_ble_eq_true rfl), (Nat.le_of_ble_eq_true rfl)⟩ dX8_write_8 (Nat.le_of_ble_eq_true rfl) rfl rfl (fun H1 hp8 hs8 => ?_)
  obtain ⟨sa1, a1, hsa, hal, hA1, hPa, hF1⟩ := hA.keep hlo hls hp8
  clear hA hHO hO hPg hMg hSc hPd hRd hHs hSl
  have hA := hA1
  clear hA1
  obtain ⟨hO, hPg, hMg, hSc, hPd, hRd, hHs, hSl⟩ := id hA
  refine g_aload_n (pc := 11) (pl := 0) X dX8_write_11 rfl ?_
  refine g_getf (pc := 12) X zF_X8_write_49 hO rfl dX8_write_12 ?_
  refine g_aload_n (pc := 15) (pl := 0) X dX8_write_15 rfl ?_
  refine g_getf (pc := 16) X zF_X8_write_10 hO rfl dX8_write_16 ?_
  refine g_iload_n (pc := 19) (pl := 1) X dX8_write_19 rfl ?_
  refine g_iload_n (pc := 20) (pl := 2) X dX8_write_20 rfl ?_
  obtain ⟨hPO, -⟩ := id hPg
  refine gVi (pc := 21) (n2 := 121) (k2 := 4272) X cs_X8_write_69 (c_X4_writeLetter (zl K) D base (x + 1) g p c (by omega) hI hp hc) rfl hPO (by omega) hPg rfl ⟨Nat.le_of_ble_eq_true rfl, Nat.le_of_ble_eq_true rfl⟩ dX8_write_21 (Nat.le_of_ble_eq_true rfl) rfl rfl (fun v21 H2 hp21 hs21 => ?_)
  obtain ⟨rfl, hPn, hf21p⟩ := hp21
  have hA1 := hA.page hf21p hPn hlo
  have hPa1 := hPa.fr hf21p (by omega)
  have hF2 := hF1.trans (Fx.of hf21p (by omega))
  clear hA hPa hPO hO hPg hMg hSc hPd hRd hHs hSl
  have hA := hA1
  have hPa := hPa1
  clear hA1 hPa1
  obtain ⟨hO, hPg, hMg, hSc, hPd, hRd, hHs, hSl⟩ := id hA
  obtain ⟨hHO, -⟩ := id hHs
  refine gVi (pc := 24) (n2 := 121) (k2 := 4272) X cs_X8_write_65 (c_X0_confirm (zl K) D base (x + 137) lo m (wrR g p c) sa1 st a1 g (by omega) (by have := wrR_rg hI p c; omega) (by omega) hsa) rfl hHO (by omega) ⟨hHs, hPa⟩ rfl ⟨Nat.le_of_ble_eq_true rfl, Nat.le_of_ble_eq_true rfl⟩ dX8_write_24 (Nat.le_of_ble_eq_true rfl) rfl rfl (fun v24 H3 hp24 hs24 => ?_)
  obtain ⟨sa2, hA2, hF3⟩ := hA.conf hlo hp24
  obtain ⟨rfl, -⟩ := hp24
  refine g_iret (pc := 27) X R hH dX8_write_27 ?_
  exact ⟨rfl, sa2, hA2, hF2.trans hF3⟩

abbrev rm_X8_erase : Room := { frames := 5, cells := 121, slots := 4272, locals := 148 }
theorem zF_X8_erase_49 : zF RX8 wsX8_erase 8 5 49 := ⟨RX8, TX8, 7, rfl, by decide +kernel, by decide, by decide +kernel⟩
theorem zF_X8_erase_10 : zF RX8 wsX8_erase 8 0 10 := ⟨RX8, TX8, 7, rfl, by decide +kernel, by decide, by decide +kernel⟩
theorem cs_X8_erase_57 : zCV RX8 wsX8_erase 57 0 yX0_keep wsX0_keep cX0_keep 3 none rm_X8_erase rm_X0_keep 1 := ⟨_, _, gX8_erase_X0_keep, rfl, ⟨by decide +kernel, by decide +kernel, by decide +kernel⟩, ⟨Nat.le_of_ble_eq_true rfl, Nat.le_of_ble_eq_true rfl⟩, rfl, rfl⟩
theorem cs_X8_erase_72 : zCV RX8 wsX8_erase 72 4 yX4_eraseLetters wsX4_eraseLetters cX4_eraseLetters 4 (some .int) rm_X8_erase rm_X4_eraseLetters 2 := ⟨_, _, gX8_erase_X4_eraseLetters, rfl, ⟨by decide +kernel, by decide +kernel, by decide +kernel⟩, ⟨Nat.le_of_ble_eq_true rfl, Nat.le_of_ble_eq_true rfl⟩, rfl, rfl⟩
theorem cs_X8_erase_65 : zCV RX8 wsX8_erase 65 0 yX0_confirm wsX0_confirm cX0_confirm 2 (some .int) rm_X8_erase rm_X0_confirm 1 := ⟨_, _, gX8_erase_X0_confirm, rfl, ⟨by decide +kernel, by decide +kernel, by decide +kernel⟩, ⟨Nat.le_of_ble_eq_true rfl, Nat.le_of_ble_eq_true rfl⟩, rfl, rfl⟩
set_option maxRecDepth 100000 in
theorem c_X8_erase (l : Launch) (D : zD) (base : Nat) (x lo : Nat) (m : Int) (sa sl : Int → Option Nat) (st ss : Int → Int → Int) (g : Int → Int) (n : Int) (f : Int → Int) (a b : Int) (hq : base ≤ x) (hlo : x + 140 ≤ lo) (hI : PInv g) (ha : rg a) (hb : rg b) : Ct l yX8_erase wsX8_erase rm_X8_erase D base [.ref x, .int (J a), .int (J b)] (fun H => AnAt D x lo m sa sl st ss g n f H ∧ lo ≤ H.size) (PI (fun H v H1 => erR g a b = v ∧ ∃ sa2 : Int → Option Nat, AnAt D x lo (hsN m (erR g a b)) sa2 sl (hsS m (erR g a b) st g) ss (erG g a b) n f H1 ∧ Fx x lo H H1)) := by
  refine Ct.of (own := RX8) (cc := cX8_erase) (maxL := 3) (by decide +kernel) rfl (Nat.le_of_ble_eq_true rfl) rfl ?_
  intro K H X R hH hnm hP
  show G K 0 0 H 0 [(0, .ref x), (1, .int (J a)), (2, .int (J b))] []
  obtain ⟨hA, hls⟩ := hP
  obtain ⟨hO, hPg, hMg, hSc, hPd, hRd, hHs, hSl⟩ := id hA
  have hm0 : 0 ≤ m ∧ m ≤ 6 := hHs.2.2.2.2
  refine g_aload_n (pc := 0) (pl := 0) X dX8_erase_0 rfl ?_
  refine g_getf (pc := 1) X zF_X8_erase_49 hO rfl dX8_erase_1 ?_
  refine g_aload_n (pc := 4) (pl := 0) X dX8_erase_4 rfl ?_
  refine g_getf (pc := 5) X zF_X8_erase_10 hO rfl dX8_erase_5 ?_
  obtain ⟨hHO, -⟩ := id hHs
  refine gVv (pc := 8) (n2 := 121) (k2 := 4272) X cs_X8_erase_57 (c_X0_keep (zl K) D base (x + 137) lo (x + 1) m sa st g (by omega) (by omega) (by omega) (by omega)) rfl hHO (by omega) ⟨hHs, hPg, hls⟩ rfl ⟨(Nat.le_of_ble_eq_true rfl), (Nat.le_of_ble_eq_true rfl)⟩ dX8_erase_8 (Nat.le_of_ble_eq_true rfl) rfl rfl (fun H1 hp8 hs8 => ?_)
  obtain ⟨sa1, a1, hsa, hal, hA1, hPa, hF1⟩ := hA.keep hlo hls hp8
  clear hA hHO hO hPg hMg hSc hPd hRd hHs hSl
  have hA := hA1
  clear hA1
  obtain ⟨hO, hPg, hMg, hSc, hPd, hRd, hHs, hSl⟩ := id hA
  refine g_aload_n (pc := 11) (pl := 0) X dX8_erase_11 rfl ?_
  refine g_getf (pc := 12) X zF_X8_erase_49 hO rfl dX8_erase_12 ?_
  refine g_aload_n (pc := 15) (pl := 0) X dX8_erase_15 rfl ?_
  refine g_getf (pc := 16) X zF_X8_erase_10 hO rfl dX8_erase_16 ?_
  refine g_iload_n (pc := 19) (pl := 1) X dX8_erase_19 rfl ?_
  refine g_iload_n (pc := 20) (pl := 2) X dX8_erase_20 rfl ?_
  obtain ⟨hPO, -⟩ := id hPg
  refine gVi (pc := 21) (n2 := 121) (k2 := 4272) X cs_X8_erase_72 (c_X4_eraseLetters (zl K) D base (x + 1) g a b (by omega) hI ha hb) rfl hPO (by omega) hPg rfl ⟨Nat.le_of_ble_eq_true rfl, Nat.le_of_ble_eq_true rfl⟩ dX8_erase_21 (Nat.le_of_ble_eq_true rfl) rfl rfl (fun v21 H2 hp21 hs21 => ?_)
  obtain ⟨rfl, hPn, hf21p⟩ := hp21
  have hA1 := hA.page hf21p hPn hlo
  have hPa1 := hPa.fr hf21p (by omega)
  have hF2 := hF1.trans (Fx.of hf21p (by omega))
  clear hA hPa hPO hO hPg hMg hSc hPd hRd hHs hSl
  have hA := hA1
  have hPa := hPa1
  clear hA1 hPa1
  obtain ⟨hO, hPg, hMg, hSc, hPd, hRd, hHs, hSl⟩ := id hA
  obtain ⟨hHO, -⟩ := id hHs
  refine gVi (pc := 24) (n2 := 121) (k2 := 4272) X cs_X8_erase_65 (c_X0_confirm (zl K) D base (x + 137) lo m (erR g a b) sa1 st a1 g (by omega) (by have := erR_rg (g := g) a b; omega) (by omega) hsa) rfl hHO (by omega) ⟨hHs, hPa⟩ rfl ⟨Nat.le_of_ble_eq_true rfl, Nat.le_of_ble_eq_true rfl⟩ dX8_erase_24 (Nat.le_of_ble_eq_true rfl) rfl rfl (fun v24 H3 hp24 hs24 => ?_)
  obtain ⟨sa2, hA2, hF3⟩ := hA.conf hlo hp24
  obtain ⟨rfl, -⟩ := hp24
  refine g_iret (pc := 27) X R hH dX8_erase_27 ?_
  exact ⟨rfl, sa2, hA2, hF2.trans hF3⟩

abbrev rm_X8_move : Room := { frames := 5, cells := 121, slots := 4272, locals := 148 }
theorem zF_X8_move_49 : zF RX8 wsX8_move 8 5 49 := ⟨RX8, TX8, 7, rfl, by decide +kernel, by decide, by decide +kernel⟩
theorem zF_X8_move_10 : zF RX8 wsX8_move 8 0 10 := ⟨RX8, TX8, 7, rfl, by decide +kernel, by decide, by decide +kernel⟩
theorem cs_X8_move_57 : zCV RX8 wsX8_move 57 0 yX0_keep wsX0_keep cX0_keep 3 none rm_X8_move rm_X0_keep 1 := ⟨_, _, gX8_move_X0_keep, rfl, ⟨by decide +kernel, by decide +kernel, by decide +kernel⟩, ⟨Nat.le_of_ble_eq_true rfl, Nat.le_of_ble_eq_true rfl⟩, rfl, rfl⟩
theorem cs_X8_move_75 : zCV RX8 wsX8_move 75 4 yX4_moveLetters wsX4_moveLetters cX4_moveLetters 6 (some .int) rm_X8_move rm_X4_moveLetters 3 := ⟨_, _, gX8_move_X4_moveLetters, rfl, ⟨by decide +kernel, by decide +kernel, by decide +kernel⟩, ⟨Nat.le_of_ble_eq_true rfl, Nat.le_of_ble_eq_true rfl⟩, rfl, rfl⟩
theorem cs_X8_move_65 : zCV RX8 wsX8_move 65 0 yX0_confirm wsX0_confirm cX0_confirm 2 (some .int) rm_X8_move rm_X0_confirm 1 := ⟨_, _, gX8_move_X0_confirm, rfl, ⟨by decide +kernel, by decide +kernel, by decide +kernel⟩, ⟨Nat.le_of_ble_eq_true rfl, Nat.le_of_ble_eq_true rfl⟩, rfl, rfl⟩
set_option maxRecDepth 100000 in
theorem c_X8_move (l : Launch) (D : zD) (base : Nat) (x lo : Nat) (m : Int) (sa sl : Int → Option Nat) (st ss : Int → Int → Int) (g : Int → Int) (n : Int) (f : Int → Int) (a b p : Int) (hq : base ≤ x) (hlo : x + 140 ≤ lo) (hI : PInv g) (ha : rg a) (hb : rg b) (hp : rg p) : Ct l yX8_move wsX8_move rm_X8_move D base [.ref x, .int (J a), .int (J b), .int (J p)] (fun H => AnAt D x lo m sa sl st ss g n f H ∧ lo ≤ H.size) (PI (fun H v H1 => mvR g a b p = v ∧ ∃ sa2 : Int → Option Nat, AnAt D x lo (hsN m (mvR g a b p)) sa2 sl (hsS m (mvR g a b p) st g) ss (mvS g a b p) n f H1 ∧ Fx x lo H H1)) := by
  refine Ct.of (own := RX8) (cc := cX8_move) (maxL := 4) (by decide +kernel) rfl (Nat.le_of_ble_eq_true rfl) rfl ?_
  intro K H X R hH hnm hP
  show G K 0 0 H 0 [(0, .ref x), (1, .int (J a)), (2, .int (J b)), (3, .int (J p))] []
  obtain ⟨hA, hls⟩ := hP
  obtain ⟨hO, hPg, hMg, hSc, hPd, hRd, hHs, hSl⟩ := id hA
  have hm0 : 0 ≤ m ∧ m ≤ 6 := hHs.2.2.2.2
  refine g_aload_n (pc := 0) (pl := 0) X dX8_move_0 rfl ?_
  refine g_getf (pc := 1) X zF_X8_move_49 hO rfl dX8_move_1 ?_
  refine g_aload_n (pc := 4) (pl := 0) X dX8_move_4 rfl ?_
  refine g_getf (pc := 5) X zF_X8_move_10 hO rfl dX8_move_5 ?_
  obtain ⟨hHO, -⟩ := id hHs
  refine gVv (pc := 8) (n2 := 121) (k2 := 4272) X cs_X8_move_57 (c_X0_keep (zl K) D base (x + 137) lo (x + 1) m sa st g (by omega) (by omega) (by omega) (by omega)) rfl hHO (by omega) ⟨hHs, hPg, hls⟩ rfl ⟨(Nat.le_of_ble_eq_true rfl), (Nat.le_of_ble_eq_true rfl)⟩ dX8_move_8 (Nat.le_of_ble_eq_true rfl) rfl rfl (fun H1 hp8 hs8 => ?_)
  obtain ⟨sa1, a1, hsa, hal, hA1, hPa, hF1⟩ := hA.keep hlo hls hp8
  clear hA hHO hO hPg hMg hSc hPd hRd hHs hSl
  have hA := hA1
  clear hA1
  obtain ⟨hO, hPg, hMg, hSc, hPd, hRd, hHs, hSl⟩ := id hA
  refine g_aload_n (pc := 11) (pl := 0) X dX8_move_11 rfl ?_
  refine g_getf (pc := 12) X zF_X8_move_49 hO rfl dX8_move_12 ?_
  refine g_aload_n (pc := 15) (pl := 0) X dX8_move_15 rfl ?_
  refine g_getf (pc := 16) X zF_X8_move_10 hO rfl dX8_move_16 ?_
  refine g_iload_n (pc := 19) (pl := 1) X dX8_move_19 rfl ?_
  refine g_iload_n (pc := 20) (pl := 2) X dX8_move_20 rfl ?_
  refine g_iload_n (pc := 21) (pl := 3) X dX8_move_21 rfl ?_
  obtain ⟨hPO, -⟩ := id hPg
  refine gVi (pc := 22) (n2 := 121) (k2 := 4272) X cs_X8_move_75 (c_X4_moveLetters (zl K) D base (x + 1) g a b p (by omega) hI ha hb hp) rfl hPO (by omega) hPg rfl ⟨Nat.le_of_ble_eq_true rfl, Nat.le_of_ble_eq_true rfl⟩ dX8_move_22 (Nat.le_of_ble_eq_true rfl) rfl rfl (fun v22 H2 hp22 hs22 => ?_)
  obtain ⟨rfl, hPn, hf22p⟩ := hp22
  have hA1 := hA.page hf22p hPn hlo
  have hPa1 := hPa.fr hf22p (by omega)
  have hF2 := hF1.trans (Fx.of hf22p (by omega))
  clear hA hPa hPO hO hPg hMg hSc hPd hRd hHs hSl
  have hA := hA1
  have hPa := hPa1
  clear hA1 hPa1
  obtain ⟨hO, hPg, hMg, hSc, hPd, hRd, hHs, hSl⟩ := id hA
  obtain ⟨hHO, -⟩ := id hHs
  refine gVi (pc := 25) (n2 := 121) (k2 := 4272) X cs_X8_move_65 (c_X0_confirm (zl K) D base (x + 137) lo m (mvR g a b p) sa1 st a1 g (by omega) (by have := mvR_rg hI a b p; omega) (by omega) hsa) rfl hHO (by omega) ⟨hHs, hPa⟩ rfl ⟨Nat.le_of_ble_eq_true rfl, Nat.le_of_ble_eq_true rfl⟩ dX8_move_25 (Nat.le_of_ble_eq_true rfl) rfl rfl (fun v25 H3 hp25 hs25 => ?_)
  obtain ⟨sa2, hA2, hF3⟩ := hA.conf hlo hp25
  obtain ⟨rfl, -⟩ := hp25
  refine g_iret (pc := 28) X R hH dX8_move_28 ?_
  exact ⟨rfl, sa2, hA2, hF2.trans hF3⟩

abbrev rm_X8_note : Room := { frames := 5, cells := 121, slots := 4272, locals := 148 }
theorem zF_X8_note_49 : zF RX8 wsX8_note 8 5 49 := ⟨RX8, TX8, 7, rfl, by decide +kernel, by decide, by decide +kernel⟩
theorem zF_X8_note_10 : zF RX8 wsX8_note 8 0 10 := ⟨RX8, TX8, 7, rfl, by decide +kernel, by decide, by decide +kernel⟩
theorem cs_X8_note_57 : zCV RX8 wsX8_note 57 0 yX0_keep wsX0_keep cX0_keep 3 none rm_X8_note rm_X0_keep 1 := ⟨_, _, gX8_note_X0_keep, rfl, ⟨by decide +kernel, by decide +kernel, by decide +kernel⟩, ⟨Nat.le_of_ble_eq_true rfl, Nat.le_of_ble_eq_true rfl⟩, rfl, rfl⟩
theorem cs_X8_note_79 : zCV RX8 wsX8_note 79 4 yX4_addNote wsX4_addNote cX4_addNote 5 (some .int) rm_X8_note rm_X4_addNote 2 := ⟨_, _, gX8_note_X4_addNote, rfl, ⟨by decide +kernel, by decide +kernel, by decide +kernel⟩, ⟨Nat.le_of_ble_eq_true rfl, Nat.le_of_ble_eq_true rfl⟩, rfl, rfl⟩
theorem cs_X8_note_65 : zCV RX8 wsX8_note 65 0 yX0_confirm wsX0_confirm cX0_confirm 2 (some .int) rm_X8_note rm_X0_confirm 1 := ⟨_, _, gX8_note_X0_confirm, rfl, ⟨by decide +kernel, by decide +kernel, by decide +kernel⟩, ⟨Nat.le_of_ble_eq_true rfl, Nat.le_of_ble_eq_true rfl⟩, rfl, rfl⟩
set_option maxRecDepth 100000 in
theorem c_X8_note (l : Launch) (D : zD) (base : Nat) (x lo : Nat) (m : Int) (sa sl : Int → Option Nat) (st ss : Int → Int → Int) (g : Int → Int) (n : Int) (f : Int → Int) (a b : Int) (hq : base ≤ x) (hlo : x + 140 ≤ lo) (hI : PInv g) (ha : rg a) (hb : rg b) : Ct l yX8_note wsX8_note rm_X8_note D base [.ref x, .int (J a), .int (J b)] (fun H => AnAt D x lo m sa sl st ss g n f H ∧ lo ≤ H.size) (PI (fun H v H1 => ntR g a b = v ∧ ∃ sa2 : Int → Option Nat, AnAt D x lo (hsN m (ntR g a b)) sa2 sl (hsS m (ntR g a b) st g) ss (ntG g a b) n f H1 ∧ Fx x lo H H1)) := by
  refine Ct.of (own := RX8) (cc := cX8_note) (maxL := 3) (by decide +kernel) rfl (Nat.le_of_ble_eq_true rfl) rfl ?_
  intro K H X R hH hnm hP
  show G K 0 0 H 0 [(0, .ref x), (1, .int (J a)), (2, .int (J b))] []
  obtain ⟨hA, hls⟩ := hP
  obtain ⟨hO, hPg, hMg, hSc, hPd, hRd, hHs, hSl⟩ := id hA
  have hm0 : 0 ≤ m ∧ m ≤ 6 := hHs.2.2.2.2
  refine g_aload_n (pc := 0) (pl := 0) X dX8_note_0 rfl ?_
  refine g_getf (pc := 1) X zF_X8_note_49 hO rfl dX8_note_1 ?_
  refine g_aload_n (pc := 4) (pl := 0) X dX8_note_4 rfl ?_
  refine g_getf (pc := 5) X zF_X8_note_10 hO rfl dX8_note_5 ?_
  obtain ⟨hHO, -⟩ := id hHs
  refine gVv (pc := 8) (n2 := 121) (k2 := 4272) X cs_X8_note_57 (c_X0_keep (zl K) D base (x + 137) lo (x + 1) m sa st g (by omega) (by omega) (by omega) (by omega)) rfl hHO (by omega) ⟨hHs, hPg, hls⟩ rfl ⟨(Nat.le_of_ble_eq_true rfl), (Nat.le_of_ble_eq_true rfl)⟩ dX8_note_8 (Nat.le_of_ble_eq_true rfl) rfl rfl (fun H1 hp8 hs8 => ?_)
  obtain ⟨sa1, a1, hsa, hal, hA1, hPa, hF1⟩ := hA.keep hlo hls hp8
  clear hA hHO hO hPg hMg hSc hPd hRd hHs hSl
  have hA := hA1
  clear hA1
  obtain ⟨hO, hPg, hMg, hSc, hPd, hRd, hHs, hSl⟩ := id hA
  refine g_aload_n (pc := 11) (pl := 0) X dX8_note_11 rfl ?_
  refine g_getf (pc := 12) X zF_X8_note_49 hO rfl dX8_note_12 ?_
  refine g_aload_n (pc := 15) (pl := 0) X dX8_note_15 rfl ?_
  refine g_getf (pc := 16) X zF_X8_note_10 hO rfl dX8_note_16 ?_
  refine g_iload_n (pc := 19) (pl := 1) X dX8_note_19 rfl ?_
  refine g_iload_n (pc := 20) (pl := 2) X dX8_note_20 rfl ?_
  obtain ⟨hPO, -⟩ := id hPg
  refine gVi (pc := 21) (n2 := 121) (k2 := 4272) X cs_X8_note_79 (c_X4_addNote (zl K) D base (x + 1) g a b (by omega) hI ha hb) rfl hPO (by omega) hPg rfl ⟨Nat.le_of_ble_eq_true rfl, Nat.le_of_ble_eq_true rfl⟩ dX8_note_21 (Nat.le_of_ble_eq_true rfl) rfl rfl (fun v21 H2 hp21 hs21 => ?_)
  obtain ⟨rfl, hPn, hf21p⟩ := hp21
  have hA1 := hA.page hf21p hPn hlo
  have hPa1 := hPa.fr hf21p (by omega)
  have hF2 := hF1.trans (Fx.of hf21p (by omega))
  clear hA hPa hPO hO hPg hMg hSc hPd hRd hHs hSl
  have hA := hA1
  have hPa := hPa1
  clear hA1 hPa1
  obtain ⟨hO, hPg, hMg, hSc, hPd, hRd, hHs, hSl⟩ := id hA
  obtain ⟨hHO, -⟩ := id hHs
  refine gVi (pc := 24) (n2 := 121) (k2 := 4272) X cs_X8_note_65 (c_X0_confirm (zl K) D base (x + 137) lo m (ntR g a b) sa1 st a1 g (by omega) (by have := ntR_rg hI a b; omega) (by omega) hsa) rfl hHO (by omega) ⟨hHs, hPa⟩ rfl ⟨Nat.le_of_ble_eq_true rfl, Nat.le_of_ble_eq_true rfl⟩ dX8_note_24 (Nat.le_of_ble_eq_true rfl) rfl rfl (fun v24 H3 hp24 hs24 => ?_)
  obtain ⟨sa2, hA2, hF3⟩ := hA.conf hlo hp24
  obtain ⟨rfl, -⟩ := hp24
  refine g_iret (pc := 27) X R hH dX8_note_27 ?_
  exact ⟨rfl, sa2, hA2, hF2.trans hF3⟩

abbrev rm_X8_reply : Room := { frames := 5, cells := 121, slots := 4272, locals := 148 }
theorem zF_X8_reply_49 : zF RX8 wsX8_reply 8 5 49 := ⟨RX8, TX8, 7, rfl, by decide +kernel, by decide, by decide +kernel⟩
theorem zF_X8_reply_10 : zF RX8 wsX8_reply 8 0 10 := ⟨RX8, TX8, 7, rfl, by decide +kernel, by decide, by decide +kernel⟩
theorem cs_X8_reply_57 : zCV RX8 wsX8_reply 57 0 yX0_keep wsX0_keep cX0_keep 3 none rm_X8_reply rm_X0_keep 1 := ⟨_, _, gX8_reply_X0_keep, rfl, ⟨by decide +kernel, by decide +kernel, by decide +kernel⟩, ⟨Nat.le_of_ble_eq_true rfl, Nat.le_of_ble_eq_true rfl⟩, rfl, rfl⟩
theorem cs_X8_reply_82 : zCV RX8 wsX8_reply 82 4 yX4_addReply wsX4_addReply cX4_addReply 4 (some .int) rm_X8_reply rm_X4_addReply 1 := ⟨_, _, gX8_reply_X4_addReply, rfl, ⟨by decide +kernel, by decide +kernel, by decide +kernel⟩, ⟨Nat.le_of_ble_eq_true rfl, Nat.le_of_ble_eq_true rfl⟩, rfl, rfl⟩
theorem cs_X8_reply_65 : zCV RX8 wsX8_reply 65 0 yX0_confirm wsX0_confirm cX0_confirm 2 (some .int) rm_X8_reply rm_X0_confirm 1 := ⟨_, _, gX8_reply_X0_confirm, rfl, ⟨by decide +kernel, by decide +kernel, by decide +kernel⟩, ⟨Nat.le_of_ble_eq_true rfl, Nat.le_of_ble_eq_true rfl⟩, rfl, rfl⟩
set_option maxRecDepth 100000 in
theorem c_X8_reply (l : Launch) (D : zD) (base : Nat) (x lo : Nat) (m : Int) (sa sl : Int → Option Nat) (st ss : Int → Int → Int) (g : Int → Int) (n : Int) (f : Int → Int) (k : Int) (hq : base ≤ x) (hlo : x + 140 ≤ lo) (hI : PInv g) (hk : rg k) : Ct l yX8_reply wsX8_reply rm_X8_reply D base [.ref x, .int (J k)] (fun H => AnAt D x lo m sa sl st ss g n f H ∧ lo ≤ H.size) (PI (fun H v H1 => rpR g k = v ∧ ∃ sa2 : Int → Option Nat, AnAt D x lo (hsN m (rpR g k)) sa2 sl (hsS m (rpR g k) st g) ss (rpG g k) n f H1 ∧ Fx x lo H H1)) := by
  refine Ct.of (own := RX8) (cc := cX8_reply) (maxL := 2) (by decide +kernel) rfl (Nat.le_of_ble_eq_true rfl) rfl ?_
  intro K H X R hH hnm hP
  show G K 0 0 H 0 [(0, .ref x), (1, .int (J k))] []
  obtain ⟨hA, hls⟩ := hP
  obtain ⟨hO, hPg, hMg, hSc, hPd, hRd, hHs, hSl⟩ := id hA
  have hm0 : 0 ≤ m ∧ m ≤ 6 := hHs.2.2.2.2
  refine g_aload_n (pc := 0) (pl := 0) X dX8_reply_0 rfl ?_
  refine g_getf (pc := 1) X zF_X8_reply_49 hO rfl dX8_reply_1 ?_
  refine g_aload_n (pc := 4) (pl := 0) X dX8_reply_4 rfl ?_
  refine g_getf (pc := 5) X zF_X8_reply_10 hO rfl dX8_reply_5 ?_
  obtain ⟨hHO, -⟩ := id hHs
  refine gVv (pc := 8) (n2 := 121) (k2 := 4272) X cs_X8_reply_57 (c_X0_keep (zl K) D base (x + 137) lo (x + 1) m sa st g (by omega) (by omega) (by omega) (by omega)) rfl hHO (by omega) ⟨hHs, hPg, hls⟩ rfl ⟨(Nat.le_of_ble_eq_true rfl), (Nat.le_of_ble_eq_true rfl)⟩ dX8_reply_8 (Nat.le_of_ble_eq_true rfl) rfl rfl (fun H1 hp8 hs8 => ?_)
  obtain ⟨sa1, a1, hsa, hal, hA1, hPa, hF1⟩ := hA.keep hlo hls hp8
  clear hA hHO hO hPg hMg hSc hPd hRd hHs hSl
  have hA := hA1
  clear hA1
  obtain ⟨hO, hPg, hMg, hSc, hPd, hRd, hHs, hSl⟩ := id hA
  refine g_aload_n (pc := 11) (pl := 0) X dX8_reply_11 rfl ?_
  refine g_getf (pc := 12) X zF_X8_reply_49 hO rfl dX8_reply_12 ?_
  refine g_aload_n (pc := 15) (pl := 0) X dX8_reply_15 rfl ?_
  refine g_getf (pc := 16) X zF_X8_reply_10 hO rfl dX8_reply_16 ?_
  refine g_iload_n (pc := 19) (pl := 1) X dX8_reply_19 rfl ?_
  obtain ⟨hPO, -⟩ := id hPg
  refine gVi (pc := 20) (n2 := 121) (k2 := 4272) X cs_X8_reply_82 (c_X4_addReply (zl K) D base (x + 1) g k (by omega) hI hk) rfl hPO (by omega) hPg rfl ⟨Nat.le_of_ble_eq_true rfl, Nat.le_of_ble_eq_true rfl⟩ dX8_reply_20 (Nat.le_of_ble_eq_true rfl) rfl rfl (fun v20 H2 hp20 hs20 => ?_)
  obtain ⟨rfl, hPn, hf20p⟩ := hp20
  have hA1 := hA.page hf20p hPn hlo
  have hPa1 := hPa.fr hf20p (by omega)
  have hF2 := hF1.trans (Fx.of hf20p (by omega))
  clear hA hPa hPO hO hPg hMg hSc hPd hRd hHs hSl
  have hA := hA1
  have hPa := hPa1
  clear hA1 hPa1
  obtain ⟨hO, hPg, hMg, hSc, hPd, hRd, hHs, hSl⟩ := id hA
  obtain ⟨hHO, -⟩ := id hHs
  refine gVi (pc := 23) (n2 := 121) (k2 := 4272) X cs_X8_reply_65 (c_X0_confirm (zl K) D base (x + 137) lo m (rpR g k) sa1 st a1 g (by omega) (by have := rpR_rg hI k; omega) (by omega) hsa) rfl hHO (by omega) ⟨hHs, hPa⟩ rfl ⟨Nat.le_of_ble_eq_true rfl, Nat.le_of_ble_eq_true rfl⟩ dX8_reply_23 (Nat.le_of_ble_eq_true rfl) rfl rfl (fun v23 H3 hp23 hs23 => ?_)
  obtain ⟨sa2, hA2, hF3⟩ := hA.conf hlo hp23
  obtain ⟨rfl, -⟩ := hp23
  refine g_iret (pc := 26) X R hH dX8_reply_26 ?_
  exact ⟨rfl, sa2, hA2, hF2.trans hF3⟩

abbrev rm_X8_drop : Room := { frames := 5, cells := 121, slots := 4272, locals := 148 }
theorem zF_X8_drop_49 : zF RX8 wsX8_drop 8 5 49 := ⟨RX8, TX8, 7, rfl, by decide +kernel, by decide, by decide +kernel⟩
theorem zF_X8_drop_10 : zF RX8 wsX8_drop 8 0 10 := ⟨RX8, TX8, 7, rfl, by decide +kernel, by decide, by decide +kernel⟩
theorem cs_X8_drop_57 : zCV RX8 wsX8_drop 57 0 yX0_keep wsX0_keep cX0_keep 3 none rm_X8_drop rm_X0_keep 1 := ⟨_, _, gX8_drop_X0_keep, rfl, ⟨by decide +kernel, by decide +kernel, by decide +kernel⟩, ⟨Nat.le_of_ble_eq_true rfl, Nat.le_of_ble_eq_true rfl⟩, rfl, rfl⟩
theorem cs_X8_drop_85 : zCV RX8 wsX8_drop 85 4 yX4_dropFamily wsX4_dropFamily cX4_dropFamily 4 (some .int) rm_X8_drop rm_X4_dropFamily 1 := ⟨_, _, gX8_drop_X4_dropFamily, rfl, ⟨by decide +kernel, by decide +kernel, by decide +kernel⟩, ⟨Nat.le_of_ble_eq_true rfl, Nat.le_of_ble_eq_true rfl⟩, rfl, rfl⟩
theorem cs_X8_drop_65 : zCV RX8 wsX8_drop 65 0 yX0_confirm wsX0_confirm cX0_confirm 2 (some .int) rm_X8_drop rm_X0_confirm 1 := ⟨_, _, gX8_drop_X0_confirm, rfl, ⟨by decide +kernel, by decide +kernel, by decide +kernel⟩, ⟨Nat.le_of_ble_eq_true rfl, Nat.le_of_ble_eq_true rfl⟩, rfl, rfl⟩
set_option maxRecDepth 100000 in
theorem c_X8_drop (l : Launch) (D : zD) (base : Nat) (x lo : Nat) (m : Int) (sa sl : Int → Option Nat) (st ss : Int → Int → Int) (g : Int → Int) (n : Int) (f : Int → Int) (k : Int) (hq : base ≤ x) (hlo : x + 140 ≤ lo) (hI : PInv g) (hk : rg k) : Ct l yX8_drop wsX8_drop rm_X8_drop D base [.ref x, .int (J k)] (fun H => AnAt D x lo m sa sl st ss g n f H ∧ lo ≤ H.size) (PI (fun H v H1 => dpR g k = v ∧ ∃ sa2 : Int → Option Nat, AnAt D x lo (hsN m (dpR g k)) sa2 sl (hsS m (dpR g k) st g) ss (dpG g k) n f H1 ∧ Fx x lo H H1)) := by
  refine Ct.of (own := RX8) (cc := cX8_drop) (maxL := 2) (by decide +kernel) rfl (Nat.le_of_ble_eq_true rfl) rfl ?_
  intro K H X R hH hnm hP
  show G K 0 0 H 0 [(0, .ref x), (1, .int (J k))] []
  obtain ⟨hA, hls⟩ := hP
  obtain ⟨hO, hPg, hMg, hSc, hPd, hRd, hHs, hSl⟩ := id hA
  have hm0 : 0 ≤ m ∧ m ≤ 6 := hHs.2.2.2.2
  refine g_aload_n (pc := 0) (pl := 0) X dX8_drop_0 rfl ?_
  refine g_getf (pc := 1) X zF_X8_drop_49 hO rfl dX8_drop_1 ?_
  refine g_aload_n (pc := 4) (pl := 0) X dX8_drop_4 rfl ?_
  refine g_getf (pc := 5) X zF_X8_drop_10 hO rfl dX8_drop_5 ?_
  obtain ⟨hHO, -⟩ := id hHs
  refine gVv (pc := 8) (n2 := 121) (k2 := 4272) X cs_X8_drop_57 (c_X0_keep (zl K) D base (x + 137) lo (x + 1) m sa st g (by omega) (by omega) (by omega) (by omega)) rfl hHO (by omega) ⟨hHs, hPg, hls⟩ rfl ⟨(Nat.le_of_ble_eq_true rfl), (Nat.le_of_ble_eq_true rfl)⟩ dX8_drop_8 (Nat.le_of_ble_eq_true rfl) rfl rfl (fun H1 hp8 hs8 => ?_)
  obtain ⟨sa1, a1, hsa, hal, hA1, hPa, hF1⟩ := hA.keep hlo hls hp8
  clear hA hHO hO hPg hMg hSc hPd hRd hHs hSl
  have hA := hA1
  clear hA1
  obtain ⟨hO, hPg, hMg, hSc, hPd, hRd, hHs, hSl⟩ := id hA
  refine g_aload_n (pc := 11) (pl := 0) X dX8_drop_11 rfl ?_
  refine g_getf (pc := 12) X zF_X8_drop_49 hO rfl dX8_drop_12 ?_
  refine g_aload_n (pc := 15) (pl := 0) X dX8_drop_15 rfl ?_
  refine g_getf (pc := 16) X zF_X8_drop_10 hO rfl dX8_drop_16 ?_
  refine g_iload_n (pc := 19) (pl := 1) X dX8_drop_19 rfl ?_
  obtain ⟨hPO, -⟩ := id hPg
  refine gVi (pc := 20) (n2 := 121) (k2 := 4272) X cs_X8_drop_85 (c_X4_dropFamily (zl K) D base (x + 1) g k (by omega) hI hk) rfl hPO (by omega) hPg rfl ⟨Nat.le_of_ble_eq_true rfl, Nat.le_of_ble_eq_true rfl⟩ dX8_drop_20 (Nat.le_of_ble_eq_true rfl) rfl rfl (fun v20 H2 hp20 hs20 => ?_)
  obtain ⟨rfl, hPn, hf20p⟩ := hp20
  have hA1 := hA.page hf20p hPn hlo
  have hPa1 := hPa.fr hf20p (by omega)
  have hF2 := hF1.trans (Fx.of hf20p (by omega))
  clear hA hPa hPO hO hPg hMg hSc hPd hRd hHs hSl
  have hA := hA1
  have hPa := hPa1
  clear hA1 hPa1
  obtain ⟨hO, hPg, hMg, hSc, hPd, hRd, hHs, hSl⟩ := id hA
  obtain ⟨hHO, -⟩ := id hHs
  refine gVi (pc := 23) (n2 := 121) (k2 := 4272) X cs_X8_drop_65 (c_X0_confirm (zl K) D base (x + 137) lo m (dpR g k) sa1 st a1 g (by omega) (by have := dpR_rg (g := g) k; omega) (by omega) hsa) rfl hHO (by omega) ⟨hHs, hPa⟩ rfl ⟨Nat.le_of_ble_eq_true rfl, Nat.le_of_ble_eq_true rfl⟩ dX8_drop_23 (Nat.le_of_ble_eq_true rfl) rfl rfl (fun v23 H3 hp23 hs23 => ?_)
  obtain ⟨sa2, hA2, hF3⟩ := hA.conf hlo hp23
  obtain ⟨rfl, -⟩ := hp23
  refine g_iret (pc := 26) X R hH dX8_drop_26 ?_
  exact ⟨rfl, sa2, hA2, hF2.trans hF3⟩


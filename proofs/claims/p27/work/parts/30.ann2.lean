/-! what is asked of a page -/
def ofR (g : Int → Int) (k e : Int) : Int :=
  if ¬ isN g k then -1 else if e = 0 then stt g k else if e = 1 then ntF g (rot g k) else if e = 2 then ntE g (rot g k) else if e = 3 then (if ¬ tgt g k = -6 then -6 else g (126 + 80 * k))
  else if e = 4 then (if ¬ tgt g k = -6 then -6 else ntL g k) else if e = 5 then (if ¬ tgt g k = -6 then -6 else ntP g k) else if e = 6 then tgt g k else if e = 7 then popc (famS g k) - 1 else if e = 8 then dpt g k else -2
def woR (g : Int → Int) (k p : Int) : Int := if ¬ isN g k then -1 else if ¬ tgt g k = -6 then -6 else itm (g (126 + 80 * k)) (fun j => g (127 + 80 * k + j)) p
/-- the printing of a page with so much room -/
def prS (g : Int → Int) (room : Int) : PS := prA g room (g 0).toNat
def piR (g : Int → Int) (k e : Int) : Int := if ¬ isN g k then -1 else if ¬ (e = 0 ∨ e = 1) then -2 else if e = 0 then (prS g (g 4)).2.1 k else (prS g (g 4)).2.2 k
def llR (g : Int → Int) (room : Int) : Int := mxL (prS g room).2.1 (g 1).toNat
def laR (g : Int → Int) (room : Int) : Int := sumI (ldr (prS g room).2.1 (prS g room).2.2) (g 1).toNat
def loR (g : Int → Int) (room : Int) : Int := mxE (prS g room).2.1 (prS g room).2.2 (g 1).toNat
def ctR (g : Int → Int) (n m e : Int) : Int :=
  if e = 0 then g 0 else if e = 1 then g 1 else if e = 2 then cst g 1 else if e = 3 then cst g 2 else if e = 4 then ptd g else if e = 5 then lns g else if e = 6 then llR g (g 4) else if e = 7 then laR g (g 4)
  else if 8 ≤ e ∧ e ≤ 10 then g (e - 6) else if e = 11 then n else if e = 12 then m else -2
theorem AnAt.lay {D : zD} {x lo : Nat} {m : Int} {sa sl : Int → Option Nat} {st ss : Int → Int → Int} {g : Int → Int} {n : Int} {f : Int → Int} {H H1 : Heap} (h : AnAt D x lo m sa sl st ss g n f H) (hlo : x + 140 ≤ lo)
    (fu : Fr (Un (x + 122) (x + 122 + 9) (x + 1 + 8) (x + 1 + 9)) 0 H H1) (hp : PageAt D (x + 1) g H1) (hm : MgE D (x + 122) H1) : AnAt D x lo m sa sl st ss g n f H1 ∧ Fz x lo H H1 := by
  obtain ⟨hO, hPg, hMg, hSc, hPd, hRd, hHs, hSl⟩ := h
  obtain ⟨Ha, f1, f2⟩ := fu.part
  exact ⟨⟨(hO.fr f1 (by omega)).fr f2 (by omega), hp, hm, (hSc.fr f1 (by omega)).fr f2 (by omega), (hPd.fr f1 (by omega)).fr f2 (by omega), (hRd.fr f1 (by omega)).fr f2 (by omega), (hHs.fr f1 (by omega)).fr f2 (by omega), (hSl.fr f1 (by omega)).fr f2 (by omega)⟩, (Fz.of f1 (by omega)).trans (Fz.of f2 (by omega))⟩

abbrev rm_X8_letter : Room := { frames := 1, cells := 0, slots := 0, locals := 21 }
theorem zF_X8_letter_10 : zF RX8 wsX8_letter 8 0 10 := ⟨RX8, TX8, 7, rfl, by decide +kernel, by decide, by decide +kernel⟩
theorem zF_X8_letter_92 : zF RX8 wsX8_letter 4 1 92 := ⟨RX4, TX4, 6, rfl, by decide +kernel, by decide, by decide +kernel⟩
theorem cs_X8_letter_95 : zCV RX8 wsX8_letter 95 6 yX6_item wsX6_item cX6_item 2 (some .int) rm_X8_letter rm_X6_item 1 := ⟨_, _, gX8_letter_X6_item, rfl, ⟨by decide +kernel, by decide +kernel, by decide +kernel⟩, ⟨Nat.le_of_ble_eq_true rfl, Nat.le_of_ble_eq_true rfl⟩, rfl, rfl⟩
set_option maxRecDepth 100000 in
theorem c_X8_letter (l : Launch) (D : zD) (base : Nat) (x lo : Nat) (m : Int) (sa sl : Int → Option Nat) (st ss : Int → Int → Int) (g : Int → Int) (n : Int) (f : Int → Int) (p : Int) (hq : base ≤ x) (hlo : x + 140 ≤ lo) (hI : PInv g) (hp : rg p) : Ct l yX8_letter wsX8_letter rm_X8_letter D base [.ref x, .int (J p)] (fun H => AnAt D x lo m sa sl st ss g n f H) (PI (fun H v H1 => itm (g 0) (LT g) p = v ∧ AnAt D x lo m sa sl st ss g n f H1 ∧ Fz x lo H H1)) := by
  refine Ct.of (own := RX8) (cc := cX8_letter) (maxL := 2) (by decide +kernel) rfl (Nat.le_of_ble_eq_true rfl) rfl ?_
  intro K H X R hH hnm hP
  show G K 0 0 H 0 [(0, .ref x), (1, .int (J p))] []
  have hA := hP
  obtain ⟨hO, hPg, hMg, hSc, hPd, hRd, hHs, hSl⟩ := id hA
  obtain ⟨hPO, hPS, hPL, hPW, hPN, hPQ, hPk0, hPk1⟩ := id hPg
  have hnum := hI.nums
  have hPL0 := hPL.bd
  refine g_aload_n (pc := 0) (pl := 0) X dX8_letter_0 rfl ?_
  refine g_getf (pc := 1) X zF_X8_letter_10 hO rfl dX8_letter_1 ?_
  refine g_getf (pc := 4) X zF_X8_letter_92 hPO rfl dX8_letter_4 ?_
  refine g_iload_n (pc := 7) (pl := 1) X dX8_letter_7 rfl ?_
  obtain ⟨hRO, -⟩ := id hPL
  refine gVi (pc := 8) (n2 := 0) (k2 := 0) X cs_X8_letter_95 (c_X6_item (zl K) D base ((x + 1) + 3) 60 (g 0) (LT g) p (by omega)) rfl hRO (by omega) hPL rfl ⟨Nat.le_of_ble_eq_true rfl, Nat.le_of_ble_eq_true rfl⟩ dX8_letter_8 (Nat.le_of_ble_eq_true rfl) rfl rfl (fun v8 H1 hp8 hs8 => ?_)
  obtain ⟨rfl, rfl⟩ := hp8
  refine g_iret (pc := 11) X R hH dX8_letter_11 ?_
  exact ⟨rfl, hA, Fz.refl _ _ _⟩

abbrev rm_X8_at : Room := { frames := 1, cells := 0, slots := 0, locals := 21 }
theorem zF_X8_at_10 : zF RX8 wsX8_at 8 0 10 := ⟨RX8, TX8, 7, rfl, by decide +kernel, by decide, by decide +kernel⟩
theorem zF_X8_at_152 : zF RX8 wsX8_at 4 2 152 := ⟨RX4, TX4, 6, rfl, by decide +kernel, by decide, by decide +kernel⟩
theorem cs_X8_at_95 : zCV RX8 wsX8_at 95 6 yX6_item wsX6_item cX6_item 2 (some .int) rm_X8_at rm_X6_item 1 := ⟨_, _, gX8_at_X6_item, rfl, ⟨by decide +kernel, by decide +kernel, by decide +kernel⟩, ⟨Nat.le_of_ble_eq_true rfl, Nat.le_of_ble_eq_true rfl⟩, rfl, rfl⟩
set_option maxRecDepth 100000 in
theorem c_X8_at (l : Launch) (D : zD) (base : Nat) (x lo : Nat) (m : Int) (sa sl : Int → Option Nat) (st ss : Int → Int → Int) (g : Int → Int) (n : Int) (f : Int → Int) (p : Int) (hq : base ≤ x) (hlo : x + 140 ≤ lo) (hI : PInv g) (hp : rg p) : Ct l yX8_at wsX8_at rm_X8_at D base [.ref x, .int (J p)] (fun H => AnAt D x lo m sa sl st ss g n f H) (PI (fun H v H1 => itm (g 0) (OW g) p = v ∧ AnAt D x lo m sa sl st ss g n f H1 ∧ Fz x lo H H1)) := by
  refine Ct.of (own := RX8) (cc := cX8_at) (maxL := 2) (by decide +kernel) rfl (Nat.le_of_ble_eq_true rfl) rfl ?_
  intro K H X R hH hnm hP
  show G K 0 0 H 0 [(0, .ref x), (1, .int (J p))] []
  have hA := hP
  obtain ⟨hO, hPg, hMg, hSc, hPd, hRd, hHs, hSl⟩ := id hA
  obtain ⟨hPO, hPS, hPL, hPW, hPN, hPQ, hPk0, hPk1⟩ := id hPg
  have hnum := hI.nums
  have hPL0 := hPL.bd
  refine g_aload_n (pc := 0) (pl := 0) X dX8_at_0 rfl ?_
  refine g_getf (pc := 1) X zF_X8_at_10 hO rfl dX8_at_1 ?_
  refine g_getf (pc := 4) X zF_X8_at_152 hPO rfl dX8_at_4 ?_
  refine g_iload_n (pc := 7) (pl := 1) X dX8_at_7 rfl ?_
  obtain ⟨hRO, -⟩ := id hPW
  refine gVi (pc := 8) (n2 := 0) (k2 := 0) X cs_X8_at_95 (c_X6_item (zl K) D base ((x + 1) + 5) 60 (g 0) (OW g) p (by omega)) rfl hRO (by omega) hPW rfl ⟨Nat.le_of_ble_eq_true rfl, Nat.le_of_ble_eq_true rfl⟩ dX8_at_8 (Nat.le_of_ble_eq_true rfl) rfl rfl (fun v8 H1 hp8 hs8 => ?_)
  obtain ⟨rfl, rfl⟩ := hp8
  refine g_iret (pc := 11) X R hH dX8_at_11 ?_
  exact ⟨rfl, hA, Fz.refl _ _ _⟩

abbrev rm_X8_orphansIf : Room := { frames := 3, cells := 0, slots := 0, locals := 69 }
abbrev rm_X8_word : Room := { frames := 1, cells := 0, slots := 0, locals := 21 }
theorem zF_X8_word_10 : zF RX8 wsX8_word 8 0 10 := ⟨RX8, TX8, 7, rfl, by decide +kernel, by decide, by decide +kernel⟩
theorem cs_X8_word_98 : zCV RX8 wsX8_word 98 4 yX4_find wsX4_find cX4_find 2 (some (.object "AnchoredNotes$Note")) rm_X8_word rm_X4_find 1 := ⟨_, _, gX8_word_X4_find, rfl, ⟨by decide +kernel, by decide +kernel, by decide +kernel⟩, ⟨Nat.le_of_ble_eq_true rfl, Nat.le_of_ble_eq_true rfl⟩, rfl, rfl⟩
theorem cs_X8_word_121 : zCV RX8 wsX8_word 121 2 yX2_isReply wsX2_isReply cX2_isReply 1 (some .boolean) rm_X8_word rm_X2_isReply 0 := ⟨_, _, gX8_word_X2_isReply, rfl, ⟨by decide +kernel, by decide +kernel, by decide +kernel⟩, ⟨Nat.le_of_ble_eq_true rfl, Nat.le_of_ble_eq_true rfl⟩, rfl, rfl⟩
theorem zF_X8_word_127 : zF RX8 wsX8_word 2 1 127 := ⟨RX2, TX2, 4, rfl, by decide +kernel, by decide, by decide +kernel⟩
theorem cs_X8_word_95 : zCV RX8 wsX8_word 95 6 yX6_item wsX6_item cX6_item 2 (some .int) rm_X8_word rm_X6_item 1 := ⟨_, _, gX8_word_X6_item, rfl, ⟨by decide +kernel, by decide +kernel, by decide +kernel⟩, ⟨Nat.le_of_ble_eq_true rfl, Nat.le_of_ble_eq_true rfl⟩, rfl, rfl⟩
set_option maxRecDepth 100000 in
theorem c_X8_word (l : Launch) (D : zD) (base : Nat) (x lo : Nat) (m : Int) (sa sl : Int → Option Nat) (st ss : Int → Int → Int) (g : Int → Int) (n : Int) (f : Int → Int) (k p : Int) (hq : base ≤ x) (hlo : x + 140 ≤ lo) (hI : PInv g) (hk : rg k) (hp : rg p) : Ct l yX8_word wsX8_word rm_X8_word D base [.ref x, .int (J k), .int (J p)] (fun H => AnAt D x lo m sa sl st ss g n f H) (PI (fun H v H1 => woR g k p = v ∧ AnAt D x lo m sa sl st ss g n f H1 ∧ Fz x lo H H1)) := by
  refine Ct.of (own := RX8) (cc := cX8_word) (maxL := 4) (by decide +kernel) rfl (Nat.le_of_ble_eq_true rfl) rfl ?_
  intro K H X R hH hnm hP
  show G K 0 0 H 0 [(0, .ref x), (1, .int (J k)), (2, .int (J p))] []
  have hA := hP
  obtain ⟨hO, hPg, hMg, hSc, hPd, hRd, hHs, hSl⟩ := id hA
  obtain ⟨hPO, hPS, hPL, hPW, hPN, hPQ, hPk0, hPk1⟩ := id hPg
  have hnum := hI.nums
  have hPL0 := hPL.bd
  refine g_aload_n (pc := 0) (pl := 0) X dX8_word_0 rfl ?_
  refine g_getf (pc := 1) X zF_X8_word_10 hO rfl dX8_word_1 ?_
  refine g_iload_n (pc := 4) (pl := 1) X dX8_word_4 rfl ?_
  by_cases ck : 0 ≤ k ∧ k < g 1
  · skip
    obtain ⟨pi, hRa, hpi, hNt⟩ := id hPN
    obtain ⟨t, wl, al, bl, fw, fa, fb, hNo, hrt, hni⟩ := hNt k (by omega) (by omega)
    obtain ⟨hte, hni2⟩ := hni (by omega)
    have hte3 : tgt g k = t := hte.symm
    obtain ⟨hNO, hNW, hNA, hNB⟩ := id hNo
    have hpb := hpi.1 k (by omega) (by omega)
    refine gVr (pc := 5) (n2 := 0) (k2 := 0) X cs_X8_word_98 (c_X4_find (zl K) D base (x + 1) (g 1) k pi (by omega) (by omega) (by omega)) rfl hPO (by omega) ⟨hPO, hRa⟩ rfl ⟨Nat.le_of_ble_eq_true rfl, Nat.le_of_ble_eq_true rfl⟩ dX8_word_5 (Nat.le_of_ble_eq_true rfl) rfl rfl (fun v5 H1 hp5 hs5 => ?_)
    obtain ⟨rfl, rfl⟩ := hp5
    rw [fnd_in (q := (x + 1)) (pi := pi) (k := (g 1)) (i := k) (by omega)]
    refine g_astore_n (pc := 8) (lv' := [(3, _), (0, _), (1, _), (2, _)]) X dX8_word_8 (by decide) rfl ?_
    refine g_aload_n (pc := 9) (pl := 0) X dX8_word_9 rfl ?_
    refine g_ifnonnull (pc := 10) X 15 dX8_word_10 (by decide) ?_
    refine g_aload_n (pc := 15) (pl := 0) X dX8_word_15 rfl ?_
    refine gVi (pc := 16) (n2 := 0) (k2 := 0) X cs_X8_word_121 (c_X2_isReply (zl K) D base ((x + 1) + 9 + 7 * pi k) t wl al bl fw fa fb (by omega) hrt) rfl hNO (by omega) hNo rfl ⟨Nat.le_of_ble_eq_true rfl, Nat.le_of_ble_eq_true rfl⟩ dX8_word_16 (Nat.le_of_ble_eq_true rfl) rfl rfl (fun v16 H1 hp16 hs16 => ?_)
    obtain ⟨rfl, rfl⟩ := hp16
    refine g_if_eq (pc := 19) X 27 dX8_word_19 (by decide) (zbr _) (fun c19 => ?_) (fun c19 => ?_)
    · skip
      replace c19 := zb0 c19
      refine g_aload_n (pc := 27) (pl := 0) X dX8_word_27 rfl ?_
      refine g_getf (pc := 28) X zF_X8_word_127 hNO rfl dX8_word_28 ?_
      refine g_iload_n (pc := 31) (pl := 3) X dX8_word_31 rfl ?_
      obtain ⟨hRO, -⟩ := id hNW
      refine gVi (pc := 32) (n2 := 0) (k2 := 0) X cs_X8_word_95 (c_X6_item (zl K) D base ((x + 1) + 9 + 7 * pi k + 1) 60 wl fw p (by omega)) rfl hRO (by omega) hNW rfl ⟨Nat.le_of_ble_eq_true rfl, Nat.le_of_ble_eq_true rfl⟩ dX8_word_32 (Nat.le_of_ble_eq_true rfl) rfl rfl (fun v32 H1 hp32 hs32 => ?_)
      obtain ⟨rfl, rfl⟩ := hp32
      refine g_iret (pc := 35) X R hH dX8_word_35 ?_
      obtain ⟨hw1, -, -, hw2, -⟩ := hni2 (by omega)
      refine ⟨?_, hA, Fz.refl _ _ _⟩
      unfold woR itm
      rw [if_neg (fun z => z ck), if_neg (by omega), ← hw1]
      split
      · next c => exact (hw2 p c.1 c.2).symm
      · rfl
    · skip
      replace c19 := zb1 c19
      refine g_bipush (pc := 22) X dX8_word_22 (by decide +kernel) ?_
      refine g_goto (pc := 24) X 35 dX8_word_24 (by decide) ?_
      refine g_iret (pc := 35) X R hH dX8_word_35 ?_
      exact ⟨by unfold woR; rw [if_neg (fun z => z ck), if_pos (by omega)], hA, Fz.refl _ _ _⟩
  · skip
    obtain ⟨pi, hRa, hpi, hNt⟩ := id hPN
    refine gVr (pc := 5) (n2 := 0) (k2 := 0) X cs_X8_word_98 (c_X4_find (zl K) D base (x + 1) (g 1) k pi (by omega) (by omega) (by omega)) rfl hPO (by omega) ⟨hPO, hRa⟩ rfl ⟨Nat.le_of_ble_eq_true rfl, Nat.le_of_ble_eq_true rfl⟩ dX8_word_5 (Nat.le_of_ble_eq_true rfl) rfl rfl (fun v5 H1 hp5 hs5 => ?_)
    obtain ⟨rfl, rfl⟩ := hp5
    rw [fnd_out (q := (x + 1)) (pi := pi) (k := (g 1)) (i := k) (by omega)]
    refine g_astore_nN (pc := 8) (lv' := [(3, _), (0, _), (1, _), (2, _)]) X dX8_word_8 (by decide) rfl ?_
    refine g_aload_nN (pc := 9) (pl := 0) X dX8_word_9 rfl ?_
    refine g_ifnonnullN (pc := 10) X dX8_word_10 ?_
    refine g_iconst (pc := 13) X dX8_word_13 ?_
    refine g_iret (pc := 14) X R hH dX8_word_14 ?_
    exact ⟨if_pos ck, hA, Fz.refl _ _ _⟩

abbrev rm_X8_printed : Room := { frames := 4, cells := 0, slots := 0, locals := 92 }
theorem zF_X8_printed_10 : zF RX8 wsX8_printed 8 0 10 := ⟨RX8, TX8, 7, rfl, by decide +kernel, by decide, by decide +kernel⟩
theorem cs_X8_printed_98 : zCV RX8 wsX8_printed 98 4 yX4_find wsX4_find cX4_find 2 (some (.object "AnchoredNotes$Note")) rm_X8_printed rm_X4_find 1 := ⟨_, _, gX8_printed_X4_find, rfl, ⟨by decide +kernel, by decide +kernel, by decide +kernel⟩, ⟨Nat.le_of_ble_eq_true rfl, Nat.le_of_ble_eq_true rfl⟩, rfl, rfl⟩
theorem zF_X8_printed_19 : zF RX8 wsX8_printed 8 1 19 := ⟨RX8, TX8, 7, rfl, by decide +kernel, by decide, by decide +kernel⟩
theorem zF_X8_printed_155 : zF RX8 wsX8_printed 4 0 155 := ⟨RX4, TX4, 6, rfl, by decide +kernel, by decide, by decide +kernel⟩
theorem cs_X8_printed_95 : zCV RX8 wsX8_printed 95 6 yX6_item wsX6_item cX6_item 2 (some .int) rm_X8_printed rm_X6_item 1 := ⟨_, _, gX8_printed_X6_item, rfl, ⟨by decide +kernel, by decide +kernel, by decide +kernel⟩, ⟨Nat.le_of_ble_eq_true rfl, Nat.le_of_ble_eq_true rfl⟩, rfl, rfl⟩
theorem cs_X8_printed_158 : zCV RX8 wsX8_printed 158 1 yX1_layOut wsX1_layOut cX1_layOut 5 none rm_X8_printed rm_X1_layOut 2 := ⟨_, _, gX8_printed_X1_layOut, rfl, ⟨by decide +kernel, by decide +kernel, by decide +kernel⟩, ⟨Nat.le_of_ble_eq_true rfl, Nat.le_of_ble_eq_true rfl⟩, rfl, rfl⟩
theorem zF_X8_printed_165 : zF RX8 wsX8_printed 1 1 165 := ⟨RX1, TX1, 7, rfl, by decide +kernel, by decide, by decide +kernel⟩
theorem zF_X8_printed_162 : zF RX8 wsX8_printed 1 0 162 := ⟨RX1, TX1, 7, rfl, by decide +kernel, by decide, by decide +kernel⟩
set_option maxRecDepth 100000 in
theorem c_X8_printed (l : Launch) (D : zD) (base : Nat) (x lo : Nat) (m : Int) (sa sl : Int → Option Nat) (st ss : Int → Int → Int) (g : Int → Int) (n : Int) (f : Int → Int) (k e : Int) (hq : base ≤ x) (hlo : x + 140 ≤ lo) (hI : PInv g) (hk : rg k) (he : rg e) : Ct l yX8_printed wsX8_printed rm_X8_printed D base [.ref x, .int (J k), .int (J e)] (fun H => AnAt D x lo m sa sl st ss g n f H) (PI (fun H v H1 => piR g k e = v ∧ AnAt D x lo m sa sl st ss g n f H1 ∧ Fz x lo H H1)) := by
  refine Ct.of (own := RX8) (cc := cX8_printed) (maxL := 3) (by decide +kernel) rfl (Nat.le_of_ble_eq_true rfl) rfl ?_
  intro K H X R hH hnm hP
  show G K 0 0 H 0 [(0, .ref x), (1, .int (J k)), (2, .int (J e))] []
  have hA := hP
  obtain ⟨hO, hPg, hMg, hSc, hPd, hRd, hHs, hSl⟩ := id hA
  obtain ⟨hPO, hPS, hPL, hPW, hPN, hPQ, hPk0, hPk1⟩ := id hPg
  have hnum := hI.nums
  have hPL0 := hPL.bd
  refine g_aload_n (pc := 0) (pl := 0) X dX8_printed_0 rfl ?_
  refine g_getf (pc := 1) X zF_X8_printed_10 hO rfl dX8_printed_1 ?_
  refine g_iload_n (pc := 4) (pl := 1) X dX8_printed_4 rfl ?_
  by_cases ck : 0 ≤ k ∧ k < g 1
  · skip
    obtain ⟨pi, hRa, hpi, hNt⟩ := id hPN
    obtain ⟨t, wl, al, bl, fw, fa, fb, hNo, hrt, hni⟩ := hNt k (by omega) (by omega)
    obtain ⟨hte, hni2⟩ := hni (by omega)
    have hte3 : tgt g k = t := hte.symm
    obtain ⟨hNO, hNW, hNA, hNB⟩ := id hNo
    have hpb := hpi.1 k (by omega) (by omega)
    refine gVr (pc := 5) (n2 := 0) (k2 := 0) X cs_X8_printed_98 (c_X4_find (zl K) D base (x + 1) (g 1) k pi (by omega) (by omega) (by omega)) rfl hPO (by omega) ⟨hPO, hRa⟩ rfl ⟨Nat.le_of_ble_eq_true rfl, Nat.le_of_ble_eq_true rfl⟩ dX8_printed_5 (Nat.le_of_ble_eq_true rfl) rfl rfl (fun v5 H1 hp5 hs5 => ?_)
    obtain ⟨rfl, rfl⟩ := hp5
    rw [fnd_in (q := (x + 1)) (pi := pi) (k := (g 1)) (i := k) (by omega)]
    refine g_ifnonnull (pc := 8) X 13 dX8_printed_8 (by decide) ?_
    refine g_iload_n (pc := 13) (pl := 2) X dX8_printed_13 rfl ?_
    refine g_if_eq (pc := 14) X 25 dX8_printed_14 (by decide) (by omega) (fun c14 => ?_) (fun c14 => ?_)
    · skip
      refine g_aload_n (pc := 25) (pl := 0) X dX8_printed_25 rfl ?_
      refine g_getf (pc := 26) X zF_X8_printed_19 hO rfl dX8_printed_26 ?_
      refine g_aload_n (pc := 29) (pl := 0) X dX8_printed_29 rfl ?_
      refine g_getf (pc := 30) X zF_X8_printed_10 hO rfl dX8_printed_30 ?_
      refine g_aload_n (pc := 33) (pl := 0) X dX8_printed_33 rfl ?_
      refine g_getf (pc := 34) X zF_X8_printed_10 hO rfl dX8_printed_34 ?_
      refine g_getf (pc := 37) X zF_X8_printed_155 hPO rfl dX8_printed_37 ?_
      refine g_iconst (pc := 40) X dX8_printed_40 ?_
      obtain ⟨hRO, -⟩ := id hPS
      refine gVi (pc := 41) (n2 := 0) (k2 := 0) X cs_X8_printed_95 (c_X6_item (zl K) D base ((x + 1) + 1) 3 3 (fun i => g (2 + i)) 2 (by omega)) rfl hRO (by omega) hPS rfl ⟨Nat.le_of_ble_eq_true rfl, Nat.le_of_ble_eq_true rfl⟩ dX8_printed_41 (Nat.le_of_ble_eq_true rfl) rfl rfl (fun v41 H1 hp41 hs41 => ?_)
      obtain ⟨rfl, rfl⟩ := hp41
      rw [show itm 3 (fun i => g (2 + i)) 2 = g 4 from rfl]
      obtain ⟨mk, mu, mF, mL, mE, mU, mx1, mx2, mx3, hMg0⟩ := id hMg
      obtain ⟨hMO, -⟩ := id hMg0
      refine gVv (pc := 44) (n2 := 0) (k2 := 0) X cs_X8_printed_158 (c_X1_layOut (zl K) D base (x + 122) mk mu mF mL mE mU mx1 mx2 mx3 (x + 1) g (g 4) (by omega) (by omega) (by omega) hI (by omega)) rfl hMO (by omega) ⟨hMg0, hPg⟩ rfl ⟨Nat.le_of_ble_eq_true rfl, Nat.le_of_ble_eq_true rfl⟩ dX8_printed_44 (Nat.le_of_ble_eq_true rfl) rfl rfl (fun H1 hp44 hs44 => ?_)
      obtain ⟨hPn, hMn, hfu⟩ := hp44
      obtain ⟨hA1, hFx⟩ := hA.lay hlo hfu hPn ⟨_, _, _, _, _, _, _, _, _, hMn⟩
      obtain ⟨hMO1, hML1, hME1, -, -⟩ := id hMn
      obtain ⟨hO1, -⟩ := id hA1
      have hMO2 : Ob D (x + 122) 1 [.ref (x + 122 + 1), .ref (x + 122 + 3), .int (J (llR g (g 4))), .int (J (laR g (g 4))), .int (J (loR g (g 4))), .ref (x + 122 + 5), .ref (x + 122 + 7)] H1 := hMO1
      refine g_iload_n (pc := 47) (pl := 2) X dX8_printed_47 rfl ?_
      refine g_if_ne (pc := 48) X 65 dX8_printed_48 (by decide) (by omega) (fun c48 => ?_) (fun c48 => ?_)
      · skip
        refine g_aload_n (pc := 65) (pl := 0) X dX8_printed_65 rfl ?_
        refine g_getf (pc := 66) X zF_X8_printed_19 hO1 rfl dX8_printed_66 ?_
        refine g_getf (pc := 69) X zF_X8_printed_165 hMO2 rfl dX8_printed_69 ?_
        refine g_iload_n (pc := 72) (pl := 1) X dX8_printed_72 rfl ?_
        obtain ⟨hRO, -⟩ := id hME1
        refine gVi (pc := 73) (n2 := 0) (k2 := 0) X cs_X8_printed_95 (c_X6_item (zl K) D base (x + 122 + 3) 16 (g 1) (prS g (g 4)).2.2 k (by omega)) rfl hRO (by omega) hME1 rfl ⟨Nat.le_of_ble_eq_true rfl, Nat.le_of_ble_eq_true rfl⟩ dX8_printed_73 (Nat.le_of_ble_eq_true rfl) rfl rfl (fun v73 H2 hp73 hs73 => ?_)
        obtain ⟨rfl, rfl⟩ := hp73
        rw [show itm (g 1) (prS g (g 4)).2.2 k = (prS g (g 4)).2.2 k from if_pos (by omega)]
        refine g_iret (pc := 76) X R hH dX8_printed_76 ?_
        exact ⟨by unfold piR; rw [if_neg (fun z => z ck), if_neg (by omega), if_neg (by omega)], hA1, hFx⟩
      · skip
        refine g_aload_n (pc := 51) (pl := 0) X dX8_printed_51 rfl ?_
        refine g_getf (pc := 52) X zF_X8_printed_19 hO1 rfl dX8_printed_52 ?_
        refine g_getf (pc := 55) X zF_X8_printed_162 hMO2 rfl dX8_printed_55 ?_
        refine g_iload_n (pc := 58) (pl := 1) X dX8_printed_58 rfl ?_
        obtain ⟨hRO, -⟩ := id hML1
        refine gVi (pc := 59) (n2 := 0) (k2 := 0) X cs_X8_printed_95 (c_X6_item (zl K) D base (x + 122 + 1) 16 (g 1) (prS g (g 4)).2.1 k (by omega)) rfl hRO (by omega) hML1 rfl ⟨Nat.le_of_ble_eq_true rfl, Nat.le_of_ble_eq_true rfl⟩ dX8_printed_59 (Nat.le_of_ble_eq_true rfl) rfl rfl (fun v59 H2 hp59 hs59 => ?_)
        obtain ⟨rfl, rfl⟩ := hp59
        rw [show itm (g 1) (prS g (g 4)).2.1 k = (prS g (g 4)).2.1 k from if_pos (by omega)]
        refine g_goto (pc := 62) X 76 dX8_printed_62 (by decide) ?_
        refine g_iret (pc := 76) X R hH dX8_printed_76 ?_
        exact ⟨by unfold piR; rw [if_neg (fun z => z ck), if_neg (by omega), if_pos (by omega)], hA1, hFx⟩
    · skip
      refine g_iload_n (pc := 17) (pl := 2) X dX8_printed_17 rfl ?_
      refine g_iconst (pc := 18) X dX8_printed_18 ?_
      refine g_icmp_eq (pc := 19) X 25 dX8_printed_19 (by decide) (by omega) (by omega) (fun c19 => ?_) (fun c19 => ?_)
      · skip
        refine g_aload_n (pc := 25) (pl := 0) X dX8_printed_25 rfl ?_
        refine g_getf (pc := 26) X zF_X8_printed_19 hO rfl dX8_printed_26 ?_
        refine g_aload_n (pc := 29) (pl := 0) X dX8_printed_29 rfl ?_
        refine g_getf (pc := 30) X zF_X8_printed_10 hO rfl dX8_printed_30 ?_
        refine g_aload_n (pc := 33) (pl := 0) X dX8_printed_33 rfl ?_
        refine g_getf (pc := 34) X zF_X8_printed_10 hO rfl dX8_printed_34 ?_
        refine g_getf (pc := 37) X zF_X8_printed_155 hPO rfl dX8_printed_37 ?_
        refine g_iconst (pc := 40) X dX8_printed_40 ?_
        obtain ⟨hRO, -⟩ := id hPS
        refine gVi (pc := 41) (n2 := 0) (k2 := 0) X cs_X8_printed_95 (c_X6_item (zl K) D base ((x + 1) + 1) 3 3 (fun i => g (2 + i)) 2 (by omega)) rfl hRO (by omega) hPS rfl ⟨Nat.le_of_ble_eq_true rfl, Nat.le_of_ble_eq_true rfl⟩ dX8_printed_41 (Nat.le_of_ble_eq_true rfl) rfl rfl (fun v41 H1 hp41 hs41 => ?_)
        obtain ⟨rfl, rfl⟩ := hp41
        rw [show itm 3 (fun i => g (2 + i)) 2 = g 4 from rfl]
        obtain ⟨mk, mu, mF, mL, mE, mU, mx1, mx2, mx3, hMg0⟩ := id hMg
        obtain ⟨hMO, -⟩ := id hMg0
        refine gVv (pc := 44) (n2 := 0) (k2 := 0) X cs_X8_printed_158 (c_X1_layOut (zl K) D base (x + 122) mk mu mF mL mE mU mx1 mx2 mx3 (x + 1) g (g 4) (by omega) (by omega) (by omega) hI (by omega)) rfl hMO (by omega) ⟨hMg0, hPg⟩ rfl ⟨Nat.le_of_ble_eq_true rfl, Nat.le_of_ble_eq_true rfl⟩ dX8_printed_44 (Nat.le_of_ble_eq_true rfl) rfl rfl (fun H1 hp44 hs44 => ?_)
        obtain ⟨hPn, hMn, hfu⟩ := hp44
        obtain ⟨hA1, hFx⟩ := hA.lay hlo hfu hPn ⟨_, _, _, _, _, _, _, _, _, hMn⟩
        obtain ⟨hMO1, hML1, hME1, -, -⟩ := id hMn
        obtain ⟨hO1, -⟩ := id hA1
        have hMO2 : Ob D (x + 122) 1 [.ref (x + 122 + 1), .ref (x + 122 + 3), .int (J (llR g (g 4))), .int (J (laR g (g 4))), .int (J (loR g (g 4))), .ref (x + 122 + 5), .ref (x + 122 + 7)] H1 := hMO1
        refine g_iload_n (pc := 47) (pl := 2) X dX8_printed_47 rfl ?_
        refine g_if_ne (pc := 48) X 65 dX8_printed_48 (by decide) (by omega) (fun c48 => ?_) (fun c48 => ?_)
        · skip
          refine g_aload_n (pc := 65) (pl := 0) X dX8_printed_65 rfl ?_
          refine g_getf (pc := 66) X zF_X8_printed_19 hO1 rfl dX8_printed_66 ?_
          refine g_getf (pc := 69) X zF_X8_printed_165 hMO2 rfl dX8_printed_69 ?_
          refine g_iload_n (pc := 72) (pl := 1) X dX8_printed_72 rfl ?_
          obtain ⟨hRO, -⟩ := id hME1
          refine gVi (pc := 73) (n2 := 0) (k2 := 0) X cs_X8_printed_95 (c_X6_item (zl K) D base (x + 122 + 3) 16 (g 1) (prS g (g 4)).2.2 k (by omega)) rfl hRO (by omega) hME1 rfl ⟨Nat.le_of_ble_eq_true rfl, Nat.le_of_ble_eq_true rfl⟩ dX8_printed_73 (Nat.le_of_ble_eq_true rfl) rfl rfl (fun v73 H2 hp73 hs73 => ?_)
          obtain ⟨rfl, rfl⟩ := hp73
          rw [show itm (g 1) (prS g (g 4)).2.2 k = (prS g (g 4)).2.2 k from if_pos (by omega)]
          refine g_iret (pc := 76) X R hH dX8_printed_76 ?_
          exact ⟨by unfold piR; rw [if_neg (fun z => z ck), if_neg (by omega), if_neg (by omega)], hA1, hFx⟩
        · skip
          refine g_aload_n (pc := 51) (pl := 0) X dX8_printed_51 rfl ?_
          refine g_getf (pc := 52) X zF_X8_printed_19 hO1 rfl dX8_printed_52 ?_
          refine g_getf (pc := 55) X zF_X8_printed_162 hMO2 rfl dX8_printed_55 ?_
          refine g_iload_n (pc := 58) (pl := 1) X dX8_printed_58 rfl ?_
          obtain ⟨hRO, -⟩ := id hML1
          refine gVi (pc := 59) (n2 := 0) (k2 := 0) X cs_X8_printed_95 (c_X6_item (zl K) D base (x + 122 + 1) 16 (g 1) (prS g (g 4)).2.1 k (by omega)) rfl hRO (by omega) hML1 rfl ⟨Nat.le_of_ble_eq_true rfl, Nat.le_of_ble_eq_true rfl⟩ dX8_printed_59 (Nat.le_of_ble_eq_true rfl) rfl rfl (fun v59 H2 hp59 hs59 => ?_)
          obtain ⟨rfl, rfl⟩ := hp59
          rw [show itm (g 1) (prS g (g 4)).2.1 k = (prS g (g 4)).2.1 k from if_pos (by omega)]
          refine g_goto (pc := 62) X 76 dX8_printed_62 (by decide) ?_
          refine g_iret (pc := 76) X R hH dX8_printed_76 ?_
          exact ⟨by unfold piR; rw [if_neg (fun z => z ck), if_neg (by omega), if_pos (by omega)], hA1, hFx⟩
      · skip
        refine g_bipush (pc := 22) X dX8_printed_22 (by decide +kernel) ?_
        refine g_iret (pc := 24) X R hH dX8_printed_24 ?_
        exact ⟨by unfold piR; rw [if_neg (fun z => z ck), if_pos (by omega)], hA, Fz.refl _ _ _⟩
  · skip
    obtain ⟨pi, hRa, hpi, hNt⟩ := id hPN
    refine gVr (pc := 5) (n2 := 0) (k2 := 0) X cs_X8_printed_98 (c_X4_find (zl K) D base (x + 1) (g 1) k pi (by omega) (by omega) (by omega)) rfl hPO (by omega) ⟨hPO, hRa⟩ rfl ⟨Nat.le_of_ble_eq_true rfl, Nat.le_of_ble_eq_true rfl⟩ dX8_printed_5 (Nat.le_of_ble_eq_true rfl) rfl rfl (fun v5 H1 hp5 hs5 => ?_)
    obtain ⟨rfl, rfl⟩ := hp5
    rw [fnd_out (q := (x + 1)) (pi := pi) (k := (g 1)) (i := k) (by omega)]
    refine g_ifnonnullN (pc := 8) X dX8_printed_8 ?_
    refine g_iconst (pc := 11) X dX8_printed_11 ?_
    refine g_iret (pc := 12) X R hH dX8_printed_12 ?_
    exact ⟨if_pos ck, hA, Fz.refl _ _ _⟩

abbrev rm_X8_of : Room := { frames := 4, cells := 0, slots := 0, locals := 90 }
theorem zF_X8_of_10 : zF RX8 wsX8_of 8 0 10 := ⟨RX8, TX8, 7, rfl, by decide +kernel, by decide, by decide +kernel⟩
theorem cs_X8_of_98 : zCV RX8 wsX8_of 98 4 yX4_find wsX4_find cX4_find 2 (some (.object "AnchoredNotes$Note")) rm_X8_of rm_X4_find 1 := ⟨_, _, gX8_of_X4_find, rfl, ⟨by decide +kernel, by decide +kernel, by decide +kernel⟩, ⟨Nat.le_of_ble_eq_true rfl, Nat.le_of_ble_eq_true rfl⟩, rfl, rfl⟩
theorem cs_X8_of_102 : zCV RX8 wsX8_of 102 4 yX4_state wsX4_state cX4_state 3 (some .int) rm_X8_of rm_X4_state 1 := ⟨_, _, gX8_of_X4_state, rfl, ⟨by decide +kernel, by decide +kernel, by decide +kernel⟩, ⟨Nat.le_of_ble_eq_true rfl, Nat.le_of_ble_eq_true rfl⟩, rfl, rfl⟩
theorem cs_X8_of_105 : zCV RX8 wsX8_of 105 4 yX4_root wsX4_root cX4_root 5 (some .int) rm_X8_of rm_X4_root 1 := ⟨_, _, gX8_of_X4_root, rfl, ⟨by decide +kernel, by decide +kernel, by decide +kernel⟩, ⟨Nat.le_of_ble_eq_true rfl, Nat.le_of_ble_eq_true rfl⟩, rfl, rfl⟩
theorem cs_X8_of_108 : zCV RX8 wsX8_of 108 4 yX4_piecesOf wsX4_piecesOf cX4_piecesOf 2 (some (.object "AnchoredNotes$Pieces")) rm_X8_of rm_X4_piecesOf 1 := ⟨_, _, gX8_of_X4_piecesOf, rfl, ⟨by decide +kernel, by decide +kernel, by decide +kernel⟩, ⟨Nat.le_of_ble_eq_true rfl, Nat.le_of_ble_eq_true rfl⟩, rfl, rfl⟩
theorem zF_X8_of_112 : zF RX8 wsX8_of 5 2 112 := ⟨RX5, TX5, 4, rfl, by decide +kernel, by decide, by decide +kernel⟩
theorem zF_X8_of_118 : zF RX8 wsX8_of 5 3 118 := ⟨RX5, TX5, 4, rfl, by decide +kernel, by decide, by decide +kernel⟩
theorem cs_X8_of_121 : zCV RX8 wsX8_of 121 2 yX2_isReply wsX2_isReply cX2_isReply 1 (some .boolean) rm_X8_of rm_X2_isReply 0 := ⟨_, _, gX8_of_X2_isReply, rfl, ⟨by decide +kernel, by decide +kernel, by decide +kernel⟩, ⟨Nat.le_of_ble_eq_true rfl, Nat.le_of_ble_eq_true rfl⟩, rfl, rfl⟩
theorem zF_X8_of_127 : zF RX8 wsX8_of 2 1 127 := ⟨RX2, TX2, 4, rfl, by decide +kernel, by decide, by decide +kernel⟩
theorem zF_X8_of_130 : zF RX8 wsX8_of 6 1 130 := ⟨RX6, TX6, 2, rfl, by decide +kernel, by decide, by decide +kernel⟩
theorem zF_X8_of_133 : zF RX8 wsX8_of 5 1 133 := ⟨RX5, TX5, 4, rfl, by decide +kernel, by decide, by decide +kernel⟩
theorem zF_X8_of_135 : zF RX8 wsX8_of 5 0 135 := ⟨RX5, TX5, 4, rfl, by decide +kernel, by decide, by decide +kernel⟩
theorem zF_X8_of_138 : zF RX8 wsX8_of 2 0 138 := ⟨RX2, TX2, 4, rfl, by decide +kernel, by decide, by decide +kernel⟩
theorem cs_X8_of_141 : zCV RX8 wsX8_of 141 4 yX4_family wsX4_family cX4_family 5 (some .int) rm_X8_of rm_X4_family 1 := ⟨_, _, gX8_of_X4_family, rfl, ⟨by decide +kernel, by decide +kernel, by decide +kernel⟩, ⟨Nat.le_of_ble_eq_true rfl, Nat.le_of_ble_eq_true rfl⟩, rfl, rfl⟩
theorem cs_X8_of_144 : zCJ RX8 wsX8_of 144 yJ6_bitCount_0f7a4 wsJ6_bitCount_0f7a4 cJ6_bitCount_0f7a4 1 (some .int) rm_X8_of rm_J6_bitCount_0f7a4 1 := ⟨_, gX8_of_J6_bitCount_0f7a4, rfl, ⟨by decide +kernel, by decide +kernel, by decide +kernel⟩, ⟨Nat.le_of_ble_eq_true rfl, Nat.le_of_ble_eq_true rfl⟩⟩
theorem cs_X8_of_149 : zCV RX8 wsX8_of 149 4 yX4_depth wsX4_depth cX4_depth 4 (some .int) rm_X8_of rm_X4_depth 1 := ⟨_, _, gX8_of_X4_depth, rfl, ⟨by decide +kernel, by decide +kernel, by decide +kernel⟩, ⟨Nat.le_of_ble_eq_true rfl, Nat.le_of_ble_eq_true rfl⟩, rfl, rfl⟩
set_option maxRecDepth 100000 in
theorem c_X8_of (l : Launch) (D : zD) (base : Nat) (x lo : Nat) (m : Int) (sa sl : Int → Option Nat) (st ss : Int → Int → Int) (g : Int → Int) (n : Int) (f : Int → Int) (k e : Int) (hq : base ≤ x) (hlo : x + 140 ≤ lo) (hI : PInv g) (hk : rg k) (he : rg e) : Ct l yX8_of wsX8_of rm_X8_of D base [.ref x, .int (J k), .int (J e)] (fun H => AnAt D x lo m sa sl st ss g n f H) (PI (fun H v H1 => ofR g k e = v ∧ AnAt D x lo m sa sl st ss g n f H1 ∧ Fz x lo H H1)) := by
  refine Ct.of (own := RX8) (cc := cX8_of) (maxL := 4) (by decide +kernel) rfl (Nat.le_of_ble_eq_true rfl) rfl ?_
  intro K H X R hH hnm hP
  show G K 0 0 H 0 [(0, .ref x), (1, .int (J k)), (2, .int (J e))] []
  have hA := hP
  obtain ⟨hO, hPg, hMg, hSc, hPd, hRd, hHs, hSl⟩ := id hA
  obtain ⟨hPO, hPS, hPL, hPW, hPN, hPQ, hPk0, hPk1⟩ := id hPg
  have hnum := hI.nums
  have hPL0 := hPL.bd
  refine g_aload_n (pc := 0) (pl := 0) X dX8_of_0 rfl ?_
  refine g_getf (pc := 1) X zF_X8_of_10 hO rfl dX8_of_1 ?_
  refine g_iload_n (pc := 4) (pl := 1) X dX8_of_4 rfl ?_
  by_cases ck : 0 ≤ k ∧ k < g 1
  · skip
    obtain ⟨pi, hRa, hpi, hNt⟩ := id hPN
    obtain ⟨t, wl, al, bl, fw, fa, fb, hNo, hrt, hni⟩ := hNt k (by omega) (by omega)
    obtain ⟨hte, hni2⟩ := hni (by omega)
    have hte3 : tgt g k = t := hte.symm
    obtain ⟨hNO, hNW, hNA, hNB⟩ := id hNo
    have hpb := hpi.1 k (by omega) (by omega)
    refine gVr (pc := 5) (n2 := 0) (k2 := 0) X cs_X8_of_98 (c_X4_find (zl K) D base (x + 1) (g 1) k pi (by omega) (by omega) (by omega)) rfl hPO (by omega) ⟨hPO, hRa⟩ rfl ⟨Nat.le_of_ble_eq_true rfl, Nat.le_of_ble_eq_true rfl⟩ dX8_of_5 (Nat.le_of_ble_eq_true rfl) rfl rfl (fun v5 H1 hp5 hs5 => ?_)
    obtain ⟨rfl, rfl⟩ := hp5
    rw [fnd_in (q := (x + 1)) (pi := pi) (k := (g 1)) (i := k) (by omega)]
    refine g_astore_n (pc := 8) (lv' := [(3, _), (0, _), (1, _), (2, _)]) X dX8_of_8 (by decide) rfl ?_
    refine g_aload_n (pc := 9) (pl := 0) X dX8_of_9 rfl ?_
    refine g_ifnonnull (pc := 10) X 15 dX8_of_10 (by decide) ?_
    refine g_iload_n (pc := 15) (pl := 3) X dX8_of_15 rfl ?_
    by_cases cs16 : e < 0 ∨ 8 < e
    · skip
      refine g_tableOut (pc := 16) X 211 dX8_of_16 (by omega) cs16 (by decide) ?_
      refine g_bipush (pc := 211) X dX8_of_211 (by decide +kernel) ?_
      refine g_iret (pc := 213) X R hH dX8_of_213 ?_
      exact ⟨(if_neg (fun z => z ck)).trans ((if_neg (by omega)).trans ((if_neg (by omega)).trans ((if_neg (by omega)).trans ((if_neg (by omega)).trans ((if_neg (by omega)).trans ((if_neg (by omega)).trans ((if_neg (by omega)).trans ((if_neg (by omega)).trans (if_neg (by omega)))))))))), hA, Fz.refl _ _ _⟩
    · skip
      by_cases cs16_0 : e = 0
      · skip
        refine g_tableIn (pc := 16) (off := 52) X 68 dX8_of_16 (by omega) (by omega) (by omega) (by rw [show e - 0 = 0 by omega]; rfl) (by decide) ?_
        refine g_aload_n (pc := 68) (pl := 1) X dX8_of_68 rfl ?_
        refine g_getf (pc := 69) X zF_X8_of_10 hO rfl dX8_of_69 ?_
        refine g_iload_n (pc := 72) (pl := 2) X dX8_of_72 rfl ?_
        refine gVi (pc := 73) (n2 := 0) (k2 := 0) X cs_X8_of_102 (c_X4_state (zl K) D base (x + 1) g k (by omega) hI (by omega)) rfl hPO (by omega) hPg rfl ⟨Nat.le_of_ble_eq_true rfl, Nat.le_of_ble_eq_true rfl⟩ dX8_of_73 (Nat.le_of_ble_eq_true rfl) rfl rfl (fun v73 H1 hp73 hs73 => ?_)
        obtain ⟨rfl, hPn, hfq⟩ := hp73
        have hA1 := hA.page (hfq.wide (by omega) (by omega)) hPn hlo
        refine g_iret (pc := 76) X R hH dX8_of_76 ?_
        exact ⟨(if_neg (fun z => z ck)).trans (if_pos (by omega)), hA1, Fz.of hfq (by omega)⟩
      · skip
        by_cases cs16_1 : e = 1
        · skip
          refine g_tableIn (pc := 16) (off := 61) X 77 dX8_of_16 (by omega) (by omega) (by omega) (by rw [show e - 0 = 1 by omega]; rfl) (by decide) ?_
          refine g_aload_n (pc := 77) (pl := 1) X dX8_of_77 rfl ?_
          refine g_getf (pc := 78) X zF_X8_of_10 hO rfl dX8_of_78 ?_
          refine g_aload_n (pc := 81) (pl := 1) X dX8_of_81 rfl ?_
          refine g_getf (pc := 82) X zF_X8_of_10 hO rfl dX8_of_82 ?_
          refine g_iload_n (pc := 85) (pl := 2) X dX8_of_85 rfl ?_
          refine gVi (pc := 86) (n2 := 0) (k2 := 0) X cs_X8_of_105 (c_X4_root (zl K) D base (x + 1) g k (by omega) hI (by omega)) rfl hPO (by omega) hPg rfl ⟨Nat.le_of_ble_eq_true rfl, Nat.le_of_ble_eq_true rfl⟩ dX8_of_86 (Nat.le_of_ble_eq_true rfl) rfl rfl (fun v86 H1 hp86 hs86 => ?_)
          obtain ⟨rfl, rfl⟩ := hp86
          have hrt2 := (dep_bd hI (n := k) (by omega)).2.2
          refine gVr (pc := 89) (n2 := 0) (k2 := 0) X cs_X8_of_108 (c_X4_piecesOf (zl K) D base (x + 1) (g 1) (g 0) (rot g k) (OW g) (by omega) (by omega) hI.own) rfl hPO (by omega) ⟨hPO, hPW, hPQ⟩ rfl ⟨Nat.le_of_ble_eq_true rfl, Nat.le_of_ble_eq_true rfl⟩ dX8_of_89 (Nat.le_of_ble_eq_true rfl) rfl rfl (fun v89 H1 hp89 hs89 => ?_)
          obtain ⟨rfl, hQn, hfq⟩ := hp89
          have hPn := hPg.sc hfq ⟨_, _, _, _, hQn⟩
          have hA1 := hA.page (hfq.wide (by omega) (by omega)) hPn hlo
          have hsb := nt_bd g (rot g k)
          have hQ8 : Ob D (x + 1 + 8) 5 [.int (J (ntP g (rot g k))), .int (J (ntL g (rot g k))), .int (J (ntF g (rot g k))), .int (J (ntE g (rot g k)))] H1 := hQn
          refine g_getf (pc := 92) X zF_X8_of_112 hQ8 rfl dX8_of_92 ?_
          refine g_iret (pc := 95) X R hH dX8_of_95 ?_
          exact ⟨(if_neg (fun z => z ck)).trans ((if_neg (by omega)).trans (if_pos (by omega))), hA1, Fz.of hfq (by omega)⟩
        · skip
          by_cases cs16_2 : e = 2
          · skip
            refine g_tableIn (pc := 16) (off := 80) X 96 dX8_of_16 (by omega) (by omega) (by omega) (by rw [show e - 0 = 2 by omega]; rfl) (by decide) ?_
            refine g_aload_n (pc := 96) (pl := 1) X dX8_of_96 rfl ?_
            refine g_getf (pc := 97) X zF_X8_of_10 hO rfl dX8_of_97 ?_
            refine g_aload_n (pc := 100) (pl := 1) X dX8_of_100 rfl ?_
            refine g_getf (pc := 101) X zF_X8_of_10 hO rfl dX8_of_101 ?_
            refine g_iload_n (pc := 104) (pl := 2) X dX8_of_104 rfl ?_
            refine gVi (pc := 105) (n2 := 0) (k2 := 0) X cs_X8_of_105 (c_X4_root (zl K) D base (x + 1) g k (by omega) hI (by omega)) rfl hPO (by omega) hPg rfl ⟨Nat.le_of_ble_eq_true rfl, Nat.le_of_ble_eq_true rfl⟩ dX8_of_105 (Nat.le_of_ble_eq_true rfl) rfl rfl (fun v105 H1 hp105 hs105 => ?_)
            obtain ⟨rfl, rfl⟩ := hp105
            have hrt2 := (dep_bd hI (n := k) (by omega)).2.2
            refine gVr (pc := 108) (n2 := 0) (k2 := 0) X cs_X8_of_108 (c_X4_piecesOf (zl K) D base (x + 1) (g 1) (g 0) (rot g k) (OW g) (by omega) (by omega) hI.own) rfl hPO (by omega) ⟨hPO, hPW, hPQ⟩ rfl ⟨Nat.le_of_ble_eq_true rfl, Nat.le_of_ble_eq_true rfl⟩ dX8_of_108 (Nat.le_of_ble_eq_true rfl) rfl rfl (fun v108 H1 hp108 hs108 => ?_)
            obtain ⟨rfl, hQn, hfq⟩ := hp108
            have hPn := hPg.sc hfq ⟨_, _, _, _, hQn⟩
            have hA1 := hA.page (hfq.wide (by omega) (by omega)) hPn hlo
            have hsb := nt_bd g (rot g k)
            have hQ8 : Ob D (x + 1 + 8) 5 [.int (J (ntP g (rot g k))), .int (J (ntL g (rot g k))), .int (J (ntF g (rot g k))), .int (J (ntE g (rot g k)))] H1 := hQn
            refine g_getf (pc := 111) X zF_X8_of_118 hQ8 rfl dX8_of_111 ?_
            refine g_iret (pc := 114) X R hH dX8_of_114 ?_
            exact ⟨(if_neg (fun z => z ck)).trans ((if_neg (by omega)).trans ((if_neg (by omega)).trans (if_pos (by omega)))), hA1, Fz.of hfq (by omega)⟩
          · skip
            by_cases cs16_3 : e = 3
            · skip
              refine g_tableIn (pc := 16) (off := 99) X 115 dX8_of_16 (by omega) (by omega) (by omega) (by rw [show e - 0 = 3 by omega]; rfl) (by decide) ?_
              refine g_aload_n (pc := 115) (pl := 0) X dX8_of_115 rfl ?_
              refine gVi (pc := 116) (n2 := 0) (k2 := 0) X cs_X8_of_121 (c_X2_isReply (zl K) D base ((x + 1) + 9 + 7 * pi k) t wl al bl fw fa fb (by omega) hrt) rfl hNO (by omega) hNo rfl ⟨Nat.le_of_ble_eq_true rfl, Nat.le_of_ble_eq_true rfl⟩ dX8_of_116 (Nat.le_of_ble_eq_true rfl) rfl rfl (fun v116 H1 hp116 hs116 => ?_)
              obtain ⟨rfl, rfl⟩ := hp116
              refine g_if_eq (pc := 119) X 127 dX8_of_119 (by decide) (zbr _) (fun c119 => ?_) (fun c119 => ?_)
              · skip
                replace c119 := zb0 c119
                refine g_aload_n (pc := 127) (pl := 0) X dX8_of_127 rfl ?_
                refine g_getf (pc := 128) X zF_X8_of_127 hNO rfl dX8_of_128 ?_
                obtain ⟨hRO, -⟩ := id hNW
                refine g_getf (pc := 131) X zF_X8_of_130 hRO rfl dX8_of_131 ?_
                refine g_iret (pc := 134) X R hH dX8_of_134 ?_
                obtain ⟨hw1, -⟩ := hni2 (by omega)
                exact ⟨(if_neg (fun z => z ck)).trans ((if_neg (by omega)).trans ((if_neg (by omega)).trans ((if_neg (by omega)).trans ((if_pos (by omega)).trans ((if_neg (by omega)).trans hw1.symm))))), hA, Fz.refl _ _ _⟩
              · skip
                replace c119 := zb1 c119
                refine g_bipush (pc := 122) X dX8_of_122 (by decide +kernel) ?_
                refine g_goto (pc := 124) X 134 dX8_of_124 (by decide) ?_
                refine g_iret (pc := 134) X R hH dX8_of_134 ?_
                exact ⟨(if_neg (fun z => z ck)).trans ((if_neg (by omega)).trans ((if_neg (by omega)).trans ((if_neg (by omega)).trans ((if_pos (by omega)).trans (if_pos (by omega)))))), hA, Fz.refl _ _ _⟩
            · skip
              by_cases cs16_4 : e = 4
              · skip
                refine g_tableIn (pc := 16) (off := 119) X 135 dX8_of_16 (by omega) (by omega) (by omega) (by rw [show e - 0 = 4 by omega]; rfl) (by decide) ?_
                refine g_aload_n (pc := 135) (pl := 0) X dX8_of_135 rfl ?_
                refine gVi (pc := 136) (n2 := 0) (k2 := 0) X cs_X8_of_121 (c_X2_isReply (zl K) D base ((x + 1) + 9 + 7 * pi k) t wl al bl fw fa fb (by omega) hrt) rfl hNO (by omega) hNo rfl ⟨Nat.le_of_ble_eq_true rfl, Nat.le_of_ble_eq_true rfl⟩ dX8_of_136 (Nat.le_of_ble_eq_true rfl) rfl rfl (fun v136 H1 hp136 hs136 => ?_)
                obtain ⟨rfl, rfl⟩ := hp136
                refine g_if_eq (pc := 139) X 147 dX8_of_139 (by decide) (zbr _) (fun c139 => ?_) (fun c139 => ?_)
                · skip
                  replace c139 := zb0 c139
                  refine g_aload_n (pc := 147) (pl := 1) X dX8_of_147 rfl ?_
                  refine g_getf (pc := 148) X zF_X8_of_10 hO rfl dX8_of_148 ?_
                  refine g_iload_n (pc := 151) (pl := 2) X dX8_of_151 rfl ?_
                  refine gVr (pc := 152) (n2 := 0) (k2 := 0) X cs_X8_of_108 (c_X4_piecesOf (zl K) D base (x + 1) (g 1) (g 0) k (OW g) (by omega) (by omega) hI.own) rfl hPO (by omega) ⟨hPO, hPW, hPQ⟩ rfl ⟨Nat.le_of_ble_eq_true rfl, Nat.le_of_ble_eq_true rfl⟩ dX8_of_152 (Nat.le_of_ble_eq_true rfl) rfl rfl (fun v152 H1 hp152 hs152 => ?_)
                  obtain ⟨rfl, hQn, hfq⟩ := hp152
                  have hPn := hPg.sc hfq ⟨_, _, _, _, hQn⟩
                  have hA1 := hA.page (hfq.wide (by omega) (by omega)) hPn hlo
                  have hsb := nt_bd g k
                  have hQ8 : Ob D (x + 1 + 8) 5 [.int (J (ntP g k)), .int (J (ntL g k)), .int (J (ntF g k)), .int (J (ntE g k))] H1 := hQn
                  refine g_getf (pc := 155) X zF_X8_of_133 hQ8 rfl dX8_of_155 ?_
                  refine g_iret (pc := 158) X R hH dX8_of_158 ?_
                  exact ⟨(if_neg (fun z => z ck)).trans ((if_neg (by omega)).trans ((if_neg (by omega)).trans ((if_neg (by omega)).trans ((if_neg (by omega)).trans ((if_pos (by omega)).trans (if_neg (by omega))))))), hA1, Fz.of hfq (by omega)⟩
                · skip
                  replace c139 := zb1 c139
                  refine g_bipush (pc := 142) X dX8_of_142 (by decide +kernel) ?_
                  refine g_goto (pc := 144) X 158 dX8_of_144 (by decide) ?_
                  refine g_iret (pc := 158) X R hH dX8_of_158 ?_
                  exact ⟨(if_neg (fun z => z ck)).trans ((if_neg (by omega)).trans ((if_neg (by omega)).trans ((if_neg (by omega)).trans ((if_neg (by omega)).trans ((if_pos (by omega)).trans (if_pos (by omega))))))), hA, Fz.refl _ _ _⟩
              · skip
                by_cases cs16_5 : e = 5
                · skip
                  refine g_tableIn (pc := 16) (off := 143) X 159 dX8_of_16 (by omega) (by omega) (by omega) (by rw [show e - 0 = 5 by omega]; rfl) (by decide) ?_
                  refine g_aload_n (pc := 159) (pl := 0) X dX8_of_159 rfl ?_
                  refine gVi (pc := 160) (n2 := 0) (k2 := 0) X cs_X8_of_121 (c_X2_isReply (zl K) D base ((x + 1) + 9 + 7 * pi k) t wl al bl fw fa fb (by omega) hrt) rfl hNO (by omega) hNo rfl ⟨Nat.le_of_ble_eq_true rfl, Nat.le_of_ble_eq_true rfl⟩ dX8_of_160 (Nat.le_of_ble_eq_true rfl) rfl rfl (fun v160 H1 hp160 hs160 => ?_)
                  obtain ⟨rfl, rfl⟩ := hp160
                  refine g_if_eq (pc := 163) X 171 dX8_of_163 (by decide) (zbr _) (fun c163 => ?_) (fun c163 => ?_)
                  · skip
                    replace c163 := zb0 c163
                    refine g_aload_n (pc := 171) (pl := 1) X dX8_of_171 rfl ?_
                    refine g_getf (pc := 172) X zF_X8_of_10 hO rfl dX8_of_172 ?_
                    refine g_iload_n (pc := 175) (pl := 2) X dX8_of_175 rfl ?_
                    refine gVr (pc := 176) (n2 := 0) (k2 := 0) X cs_X8_of_108 (c_X4_piecesOf (zl K) D base (x + 1) (g 1) (g 0) k (OW g) (by omega) (by omega) hI.own) rfl hPO (by omega) ⟨hPO, hPW, hPQ⟩ rfl ⟨Nat.le_of_ble_eq_true rfl, Nat.le_of_ble_eq_true rfl⟩ dX8_of_176 (Nat.le_of_ble_eq_true rfl) rfl rfl (fun v176 H1 hp176 hs176 => ?_)
                    obtain ⟨rfl, hQn, hfq⟩ := hp176
                    have hPn := hPg.sc hfq ⟨_, _, _, _, hQn⟩
                    have hA1 := hA.page (hfq.wide (by omega) (by omega)) hPn hlo
                    have hsb := nt_bd g k
                    have hQ8 : Ob D (x + 1 + 8) 5 [.int (J (ntP g k)), .int (J (ntL g k)), .int (J (ntF g k)), .int (J (ntE g k))] H1 := hQn
                    refine g_getf (pc := 179) X zF_X8_of_135 hQ8 rfl dX8_of_179 ?_
                    refine g_iret (pc := 182) X R hH dX8_of_182 ?_
                    exact ⟨(if_neg (fun z => z ck)).trans ((if_neg (by omega)).trans ((if_neg (by omega)).trans ((if_neg (by omega)).trans ((if_neg (by omega)).trans ((if_neg (by omega)).trans ((if_pos (by omega)).trans (if_neg (by omega)))))))), hA1, Fz.of hfq (by omega)⟩
                  · skip
                    replace c163 := zb1 c163
                    refine g_bipush (pc := 166) X dX8_of_166 (by decide +kernel) ?_
                    refine g_goto (pc := 168) X 182 dX8_of_168 (by decide) ?_
                    refine g_iret (pc := 182) X R hH dX8_of_182 ?_
                    exact ⟨(if_neg (fun z => z ck)).trans ((if_neg (by omega)).trans ((if_neg (by omega)).trans ((if_neg (by omega)).trans ((if_neg (by omega)).trans ((if_neg (by omega)).trans ((if_pos (by omega)).trans (if_pos (by omega)))))))), hA, Fz.refl _ _ _⟩
                · skip
                  by_cases cs16_6 : e = 6
                  · skip
                    refine g_tableIn (pc := 16) (off := 167) X 183 dX8_of_16 (by omega) (by omega) (by omega) (by rw [show e - 0 = 6 by omega]; rfl) (by decide) ?_
                    refine g_aload_n (pc := 183) (pl := 0) X dX8_of_183 rfl ?_
                    refine g_getf (pc := 184) X zF_X8_of_138 hNO rfl dX8_of_184 ?_
                    refine g_iret (pc := 187) X R hH dX8_of_187 ?_
                    exact ⟨(if_neg (fun z => z ck)).trans ((if_neg (by omega)).trans ((if_neg (by omega)).trans ((if_neg (by omega)).trans ((if_neg (by omega)).trans ((if_neg (by omega)).trans ((if_neg (by omega)).trans ((if_pos (by omega)).trans hte3))))))), hA, Fz.refl _ _ _⟩
                  · skip
                    by_cases cs16_7 : e = 7
                    · skip
                      refine g_tableIn (pc := 16) (off := 172) X 188 dX8_of_16 (by omega) (by omega) (by omega) (by rw [show e - 0 = 7 by omega]; rfl) (by decide) ?_
                      refine g_aload_n (pc := 188) (pl := 1) X dX8_of_188 rfl ?_
                      refine g_getf (pc := 189) X zF_X8_of_10 hO rfl dX8_of_189 ?_
                      refine g_iload_n (pc := 192) (pl := 2) X dX8_of_192 rfl ?_
                      refine gVi (pc := 193) (n2 := 0) (k2 := 0) X cs_X8_of_141 (c_X4_family (zl K) D base (x + 1) g k (by omega) hI (by omega)) rfl hPO (by omega) hPg rfl ⟨Nat.le_of_ble_eq_true rfl, Nat.le_of_ble_eq_true rfl⟩ dX8_of_193 (Nat.le_of_ble_eq_true rfl) rfl rfl (fun v193 H1 hp193 hs193 => ?_)
                      obtain ⟨rfl, rfl⟩ := hp193
                      have hfb := fam_bd (g := g) (n := k) (by omega) (g 1 - 1 - k).toNat (by omega)
                      rw [show famS g k = ((fam g k (g 1 - 1 - k).toNat : Nat) : Int) from rfl]
                      refine gJi (pc := 196) (n2 := 0) (k2 := 0) X cs_X8_of_144 (c_J6_bitCount (zl K) D base (fam g k (g 1 - 1 - k).toNat) (by omega)) rfl (by have := hO.lt; omega) trivial rfl ⟨Nat.le_of_ble_eq_true rfl, Nat.le_of_ble_eq_true rfl⟩ dX8_of_196 (Nat.le_of_ble_eq_true rfl) rfl rfl (fun v196 H1 hp196 hs196 => ?_)
                      obtain ⟨rfl, rfl⟩ := hp196
                      refine g_iconst (pc := 199) X dX8_of_199 ?_
                      refine g_isub (pc := 200) X dX8_of_200 ?_
                      refine g_iret (pc := 201) X R hH dX8_of_201 ?_
                      exact ⟨(if_neg (fun z => z ck)).trans ((if_neg (by omega)).trans ((if_neg (by omega)).trans ((if_neg (by omega)).trans ((if_neg (by omega)).trans ((if_neg (by omega)).trans ((if_neg (by omega)).trans ((if_neg (by omega)).trans (if_pos (by omega))))))))), hA, Fz.refl _ _ _⟩
                    · skip
                      have cs16_8 : e = 8 := by omega
                      refine g_tableIn (pc := 16) (off := 186) X 202 dX8_of_16 (by omega) (by omega) (by omega) (by rw [show e - 0 = 8 by omega]; rfl) (by decide) ?_
                      refine g_aload_n (pc := 202) (pl := 1) X dX8_of_202 rfl ?_
                      refine g_getf (pc := 203) X zF_X8_of_10 hO rfl dX8_of_203 ?_
                      refine g_iload_n (pc := 206) (pl := 2) X dX8_of_206 rfl ?_
                      refine gVi (pc := 207) (n2 := 0) (k2 := 0) X cs_X8_of_149 (c_X4_depth (zl K) D base (x + 1) g k (by omega) hI (by omega)) rfl hPO (by omega) hPg rfl ⟨Nat.le_of_ble_eq_true rfl, Nat.le_of_ble_eq_true rfl⟩ dX8_of_207 (Nat.le_of_ble_eq_true rfl) rfl rfl (fun v207 H1 hp207 hs207 => ?_)
                      obtain ⟨rfl, rfl⟩ := hp207
                      refine g_iret (pc := 210) X R hH dX8_of_210 ?_
                      exact ⟨(if_neg (fun z => z ck)).trans ((if_neg (by omega)).trans ((if_neg (by omega)).trans ((if_neg (by omega)).trans ((if_neg (by omega)).trans ((if_neg (by omega)).trans ((if_neg (by omega)).trans ((if_neg (by omega)).trans ((if_neg (by omega)).trans (if_pos (by omega)))))))))), hA, Fz.refl _ _ _⟩
  · skip
    obtain ⟨pi, hRa, hpi, hNt⟩ := id hPN
    refine gVr (pc := 5) (n2 := 0) (k2 := 0) X cs_X8_of_98 (c_X4_find (zl K) D base (x + 1) (g 1) k pi (by omega) (by omega) (by omega)) rfl hPO (by omega) ⟨hPO, hRa⟩ rfl ⟨Nat.le_of_ble_eq_true rfl, Nat.le_of_ble_eq_true rfl⟩ dX8_of_5 (Nat.le_of_ble_eq_true rfl) rfl rfl (fun v5 H1 hp5 hs5 => ?_)
    obtain ⟨rfl, rfl⟩ := hp5
    rw [fnd_out (q := (x + 1)) (pi := pi) (k := (g 1)) (i := k) (by omega)]
    refine g_astore_nN (pc := 8) (lv' := [(3, _), (0, _), (1, _), (2, _)]) X dX8_of_8 (by decide) rfl ?_
    refine g_aload_nN (pc := 9) (pl := 0) X dX8_of_9 rfl ?_
    refine g_ifnonnullN (pc := 10) X dX8_of_10 ?_
    refine g_iconst (pc := 13) X dX8_of_13 ?_
    refine g_iret (pc := 14) X R hH dX8_of_14 ?_
    exact ⟨if_pos ck, hA, Fz.refl _ _ _⟩

abbrev rm_X8_count : Room := { frames := 5, cells := 0, slots := 0, locals := 113 }
theorem zF_X8_count_10 : zF RX8 wsX8_count 8 0 10 := ⟨RX8, TX8, 7, rfl, by decide +kernel, by decide, by decide +kernel⟩
theorem zF_X8_count_92 : zF RX8 wsX8_count 4 1 92 := ⟨RX4, TX4, 6, rfl, by decide +kernel, by decide, by decide +kernel⟩
theorem zF_X8_count_130 : zF RX8 wsX8_count 6 1 130 := ⟨RX6, TX6, 2, rfl, by decide +kernel, by decide, by decide +kernel⟩
theorem zF_X8_count_168 : zF RX8 wsX8_count 4 4 168 := ⟨RX4, TX4, 6, rfl, by decide +kernel, by decide, by decide +kernel⟩
theorem cs_X8_count_171 : zCV RX8 wsX8_count 171 4 yX4_countState wsX4_countState cX4_countState 4 (some .int) rm_X8_count rm_X4_countState 1 := ⟨_, _, gX8_count_X4_countState, rfl, ⟨by decide +kernel, by decide +kernel, by decide +kernel⟩, ⟨Nat.le_of_ble_eq_true rfl, Nat.le_of_ble_eq_true rfl⟩, rfl, rfl⟩
theorem cs_X8_count_174 : zCV RX8 wsX8_count 174 4 yX4_countParted wsX4_countParted cX4_countParted 3 (some .int) rm_X8_count rm_X4_countParted 0 := ⟨_, _, gX8_count_X4_countParted, rfl, ⟨by decide +kernel, by decide +kernel, by decide +kernel⟩, ⟨Nat.le_of_ble_eq_true rfl, Nat.le_of_ble_eq_true rfl⟩, rfl, rfl⟩
theorem cs_X8_count_178 : zCV RX8 wsX8_count 178 4 yX4_countLines wsX4_countLines cX4_countLines 1 (some .int) rm_X8_count rm_X4_countLines 0 := ⟨_, _, gX8_count_X4_countLines, rfl, ⟨by decide +kernel, by decide +kernel, by decide +kernel⟩, ⟨Nat.le_of_ble_eq_true rfl, Nat.le_of_ble_eq_true rfl⟩, rfl, rfl⟩
theorem zF_X8_count_19 : zF RX8 wsX8_count 8 1 19 := ⟨RX8, TX8, 7, rfl, by decide +kernel, by decide, by decide +kernel⟩
theorem zF_X8_count_155 : zF RX8 wsX8_count 4 0 155 := ⟨RX4, TX4, 6, rfl, by decide +kernel, by decide, by decide +kernel⟩
theorem cs_X8_count_95 : zCV RX8 wsX8_count 95 6 yX6_item wsX6_item cX6_item 2 (some .int) rm_X8_count rm_X6_item 1 := ⟨_, _, gX8_count_X6_item, rfl, ⟨by decide +kernel, by decide +kernel, by decide +kernel⟩, ⟨Nat.le_of_ble_eq_true rfl, Nat.le_of_ble_eq_true rfl⟩, rfl, rfl⟩
theorem cs_X8_count_158 : zCV RX8 wsX8_count 158 1 yX1_layOut wsX1_layOut cX1_layOut 5 none rm_X8_count rm_X1_layOut 2 := ⟨_, _, gX8_count_X1_layOut, rfl, ⟨by decide +kernel, by decide +kernel, by decide +kernel⟩, ⟨Nat.le_of_ble_eq_true rfl, Nat.le_of_ble_eq_true rfl⟩, rfl, rfl⟩
theorem zF_X8_count_181 : zF RX8 wsX8_count 1 2 181 := ⟨RX1, TX1, 7, rfl, by decide +kernel, by decide, by decide +kernel⟩
theorem zF_X8_count_184 : zF RX8 wsX8_count 1 3 184 := ⟨RX1, TX1, 7, rfl, by decide +kernel, by decide, by decide +kernel⟩
theorem zF_X8_count_35 : zF RX8 wsX8_count 8 3 35 := ⟨RX8, TX8, 7, rfl, by decide +kernel, by decide, by decide +kernel⟩
theorem zF_X8_count_49 : zF RX8 wsX8_count 8 5 49 := ⟨RX8, TX8, 7, rfl, by decide +kernel, by decide, by decide +kernel⟩
theorem zF_X8_count_187 : zF RX8 wsX8_count 0 1 187 := ⟨RX0, TX0, 2, rfl, by decide +kernel, by decide, by decide +kernel⟩
set_option maxRecDepth 100000 in
theorem c_X8_count (l : Launch) (D : zD) (base : Nat) (x lo : Nat) (m : Int) (sa sl : Int → Option Nat) (st ss : Int → Int → Int) (g : Int → Int) (n : Int) (f : Int → Int) (e : Int) (hq : base ≤ x) (hlo : x + 140 ≤ lo) (hI : PInv g) (he : rg e) : Ct l yX8_count wsX8_count rm_X8_count D base [.ref x, .int (J e)] (fun H => AnAt D x lo m sa sl st ss g n f H) (PI (fun H v H1 => ctR g n m e = v ∧ AnAt D x lo m sa sl st ss g n f H1 ∧ Fz x lo H H1)) := by
  refine Ct.of (own := RX8) (cc := cX8_count) (maxL := 2) (by decide +kernel) rfl (Nat.le_of_ble_eq_true rfl) rfl ?_
  intro K H X R hH hnm hP
  show G K 0 0 H 0 [(0, .ref x), (1, .int (J e))] []
  have hA := hP
  obtain ⟨hO, hPg, hMg, hSc, hPd, hRd, hHs, hSl⟩ := id hA
  obtain ⟨hPO, hPS, hPL, hPW, hPN, hPQ, hPk0, hPk1⟩ := id hPg
  have hnum := hI.nums
  have hPL0 := hPL.bd
  refine g_iload_n (pc := 0) (pl := 1) X dX8_count_0 rfl ?_
  by_cases cs1 : e < 0 ∨ 12 < e
  · skip
    refine g_tableOut (pc := 1) X 212 dX8_count_1 (by omega) cs1 (by decide) ?_
    refine g_bipush (pc := 212) X dX8_count_212 (by decide +kernel) ?_
    refine g_iret (pc := 214) X R hH dX8_count_214 ?_
    exact ⟨(if_neg (by omega)).trans ((if_neg (by omega)).trans ((if_neg (by omega)).trans ((if_neg (by omega)).trans ((if_neg (by omega)).trans ((if_neg (by omega)).trans ((if_neg (by omega)).trans ((if_neg (by omega)).trans ((if_neg (by omega)).trans ((if_neg (by omega)).trans (if_neg (by omega))))))))))), hA, Fz.refl _ _ _⟩
  · skip
    by_cases cs1_0 : e = 0
    · skip
      refine g_tableIn (pc := 1) (off := 67) X 68 dX8_count_1 (by omega) (by omega) (by omega) (by rw [show e - 0 = 0 by omega]; rfl) (by decide) ?_
      refine g_aload_n (pc := 68) (pl := 0) X dX8_count_68 rfl ?_
      refine g_getf (pc := 69) X zF_X8_count_10 hO rfl dX8_count_69 ?_
      refine g_getf (pc := 72) X zF_X8_count_92 hPO rfl dX8_count_72 ?_
      obtain ⟨hRO, -⟩ := id hPL
      refine g_getf (pc := 75) X zF_X8_count_130 hRO rfl dX8_count_75 ?_
      refine g_iret (pc := 78) X R hH dX8_count_78 ?_
      exact ⟨if_pos (by omega), hA, Fz.refl _ _ _⟩
    · skip
      by_cases cs1_1 : e = 1
      · skip
        refine g_tableIn (pc := 1) (off := 78) X 79 dX8_count_1 (by omega) (by omega) (by omega) (by rw [show e - 0 = 1 by omega]; rfl) (by decide) ?_
        refine g_aload_n (pc := 79) (pl := 0) X dX8_count_79 rfl ?_
        refine g_getf (pc := 80) X zF_X8_count_10 hO rfl dX8_count_80 ?_
        refine g_getf (pc := 83) X zF_X8_count_168 hPO rfl dX8_count_83 ?_
        refine g_iret (pc := 86) X R hH dX8_count_86 ?_
        exact ⟨(if_neg (by omega)).trans (if_pos (by omega)), hA, Fz.refl _ _ _⟩
      · skip
        by_cases cs1_2 : e = 2
        · skip
          refine g_tableIn (pc := 1) (off := 86) X 87 dX8_count_1 (by omega) (by omega) (by omega) (by rw [show e - 0 = 2 by omega]; rfl) (by decide) ?_
          refine g_aload_n (pc := 87) (pl := 0) X dX8_count_87 rfl ?_
          refine g_getf (pc := 88) X zF_X8_count_10 hO rfl dX8_count_88 ?_
          refine g_iconst (pc := 91) X dX8_count_91 ?_
          refine gVi (pc := 92) (n2 := 0) (k2 := 0) X cs_X8_count_171 (c_X4_countState (zl K) D base (x + 1) g 1 (by omega) hI (by omega)) rfl hPO (by omega) hPg rfl ⟨Nat.le_of_ble_eq_true rfl, Nat.le_of_ble_eq_true rfl⟩ dX8_count_92 (Nat.le_of_ble_eq_true rfl) rfl rfl (fun v92 H1 hp92 hs92 => ?_)
          obtain ⟨rfl, hPn, hfq⟩ := hp92
          have hA1 := hA.page (hfq.wide (by omega) (by omega)) hPn hlo
          refine g_iret (pc := 95) X R hH dX8_count_95 ?_
          exact ⟨(if_neg (by omega)).trans ((if_neg (by omega)).trans (if_pos (by omega))), hA1, Fz.of hfq (by omega)⟩
        · skip
          by_cases cs1_3 : e = 3
          · skip
            refine g_tableIn (pc := 1) (off := 95) X 96 dX8_count_1 (by omega) (by omega) (by omega) (by rw [show e - 0 = 3 by omega]; rfl) (by decide) ?_
            refine g_aload_n (pc := 96) (pl := 0) X dX8_count_96 rfl ?_
            refine g_getf (pc := 97) X zF_X8_count_10 hO rfl dX8_count_97 ?_
            refine g_iconst (pc := 100) X dX8_count_100 ?_
            refine gVi (pc := 101) (n2 := 0) (k2 := 0) X cs_X8_count_171 (c_X4_countState (zl K) D base (x + 1) g 2 (by omega) hI (by omega)) rfl hPO (by omega) hPg rfl ⟨Nat.le_of_ble_eq_true rfl, Nat.le_of_ble_eq_true rfl⟩ dX8_count_101 (Nat.le_of_ble_eq_true rfl) rfl rfl (fun v101 H1 hp101 hs101 => ?_)
            obtain ⟨rfl, hPn, hfq⟩ := hp101
            have hA1 := hA.page (hfq.wide (by omega) (by omega)) hPn hlo
            refine g_iret (pc := 104) X R hH dX8_count_104 ?_
            exact ⟨(if_neg (by omega)).trans ((if_neg (by omega)).trans ((if_neg (by omega)).trans (if_pos (by omega)))), hA1, Fz.of hfq (by omega)⟩
          · skip
            by_cases cs1_4 : e = 4
            · skip
              refine g_tableIn (pc := 1) (off := 104) X 105 dX8_count_1 (by omega) (by omega) (by omega) (by rw [show e - 0 = 4 by omega]; rfl) (by decide) ?_
              refine g_aload_n (pc := 105) (pl := 0) X dX8_count_105 rfl ?_
              refine g_getf (pc := 106) X zF_X8_count_10 hO rfl dX8_count_106 ?_
              refine gVi (pc := 109) (n2 := 0) (k2 := 0) X cs_X8_count_174 (c_X4_countParted (zl K) D base (x + 1) g (by omega) hI) rfl hPO (by omega) hPg rfl ⟨Nat.le_of_ble_eq_true rfl, Nat.le_of_ble_eq_true rfl⟩ dX8_count_109 (Nat.le_of_ble_eq_true rfl) rfl rfl (fun v109 H1 hp109 hs109 => ?_)
              obtain ⟨rfl, hPn, hfq⟩ := hp109
              have hA1 := hA.page (hfq.wide (by omega) (by omega)) hPn hlo
              refine g_iret (pc := 112) X R hH dX8_count_112 ?_
              exact ⟨(if_neg (by omega)).trans ((if_neg (by omega)).trans ((if_neg (by omega)).trans ((if_neg (by omega)).trans (if_pos (by omega))))), hA1, Fz.of hfq (by omega)⟩
            · skip
              by_cases cs1_5 : e = 5
              · skip
                refine g_tableIn (pc := 1) (off := 112) X 113 dX8_count_1 (by omega) (by omega) (by omega) (by rw [show e - 0 = 5 by omega]; rfl) (by decide) ?_
                refine g_aload_n (pc := 113) (pl := 0) X dX8_count_113 rfl ?_
                refine g_getf (pc := 114) X zF_X8_count_10 hO rfl dX8_count_114 ?_
                refine gVi (pc := 117) (n2 := 0) (k2 := 0) X cs_X8_count_178 (c_X4_countLines (zl K) D base (x + 1) g (by omega) hI) rfl hPO (by omega) hPg rfl ⟨Nat.le_of_ble_eq_true rfl, Nat.le_of_ble_eq_true rfl⟩ dX8_count_117 (Nat.le_of_ble_eq_true rfl) rfl rfl (fun v117 H1 hp117 hs117 => ?_)
                obtain ⟨rfl, rfl⟩ := hp117
                refine g_iret (pc := 120) X R hH dX8_count_120 ?_
                exact ⟨(if_neg (by omega)).trans ((if_neg (by omega)).trans ((if_neg (by omega)).trans ((if_neg (by omega)).trans ((if_neg (by omega)).trans (if_pos (by omega)))))), hA, Fz.refl _ _ _⟩
              · skip
                by_cases cs1_6 : e = 6
                · skip
                  refine g_tableIn (pc := 1) (off := 120) X 121 dX8_count_1 (by omega) (by omega) (by omega) (by rw [show e - 0 = 6 by omega]; rfl) (by decide) ?_
                  refine g_aload_n (pc := 121) (pl := 0) X dX8_count_121 rfl ?_
                  refine g_getf (pc := 122) X zF_X8_count_19 hO rfl dX8_count_122 ?_
                  refine g_aload_n (pc := 125) (pl := 0) X dX8_count_125 rfl ?_
                  refine g_getf (pc := 126) X zF_X8_count_10 hO rfl dX8_count_126 ?_
                  refine g_aload_n (pc := 129) (pl := 0) X dX8_count_129 rfl ?_
                  refine g_getf (pc := 130) X zF_X8_count_10 hO rfl dX8_count_130 ?_
                  refine g_getf (pc := 133) X zF_X8_count_155 hPO rfl dX8_count_133 ?_
                  refine g_iconst (pc := 136) X dX8_count_136 ?_
                  obtain ⟨hRO, -⟩ := id hPS
                  refine gVi (pc := 137) (n2 := 0) (k2 := 0) X cs_X8_count_95 (c_X6_item (zl K) D base ((x + 1) + 1) 3 3 (fun i => g (2 + i)) 2 (by omega)) rfl hRO (by omega) hPS rfl ⟨Nat.le_of_ble_eq_true rfl, Nat.le_of_ble_eq_true rfl⟩ dX8_count_137 (Nat.le_of_ble_eq_true rfl) rfl rfl (fun v137 H1 hp137 hs137 => ?_)
                  obtain ⟨rfl, rfl⟩ := hp137
                  rw [show itm 3 (fun i => g (2 + i)) 2 = g 4 from rfl]
                  obtain ⟨mk, mu, mF, mL, mE, mU, mx1, mx2, mx3, hMg0⟩ := id hMg
                  obtain ⟨hMO, -⟩ := id hMg0
                  refine gVv (pc := 140) (n2 := 0) (k2 := 0) X cs_X8_count_158 (c_X1_layOut (zl K) D base (x + 122) mk mu mF mL mE mU mx1 mx2 mx3 (x + 1) g (g 4) (by omega) (by omega) (by omega) hI (by omega)) rfl hMO (by omega) ⟨hMg0, hPg⟩ rfl ⟨Nat.le_of_ble_eq_true rfl, Nat.le_of_ble_eq_true rfl⟩ dX8_count_140 (Nat.le_of_ble_eq_true rfl) rfl rfl (fun H1 hp140 hs140 => ?_)
                  obtain ⟨hPn, hMn, hfu⟩ := hp140
                  obtain ⟨hA1, hFx⟩ := hA.lay hlo hfu hPn ⟨_, _, _, _, _, _, _, _, _, hMn⟩
                  obtain ⟨hMO1, hML1, hME1, -, -⟩ := id hMn
                  obtain ⟨hO1, -⟩ := id hA1
                  have hMO2 : Ob D (x + 122) 1 [.ref (x + 122 + 1), .ref (x + 122 + 3), .int (J (llR g (g 4))), .int (J (laR g (g 4))), .int (J (loR g (g 4))), .ref (x + 122 + 5), .ref (x + 122 + 7)] H1 := hMO1
                  refine g_aload_n (pc := 143) (pl := 0) X dX8_count_143 rfl ?_
                  refine g_getf (pc := 144) X zF_X8_count_19 hO1 rfl dX8_count_144 ?_
                  refine g_getf (pc := 147) X zF_X8_count_181 hMO2 rfl dX8_count_147 ?_
                  refine g_iret (pc := 150) X R hH dX8_count_150 ?_
                  exact ⟨(if_neg (by omega)).trans ((if_neg (by omega)).trans ((if_neg (by omega)).trans ((if_neg (by omega)).trans ((if_neg (by omega)).trans ((if_neg (by omega)).trans (if_pos (by omega))))))), hA1, hFx⟩
                · skip
                  by_cases cs1_7 : e = 7
                  · skip
                    refine g_tableIn (pc := 1) (off := 150) X 151 dX8_count_1 (by omega) (by omega) (by omega) (by rw [show e - 0 = 7 by omega]; rfl) (by decide) ?_
                    refine g_aload_n (pc := 151) (pl := 0) X dX8_count_151 rfl ?_
                    refine g_getf (pc := 152) X zF_X8_count_19 hO rfl dX8_count_152 ?_
                    refine g_aload_n (pc := 155) (pl := 0) X dX8_count_155 rfl ?_
                    refine g_getf (pc := 156) X zF_X8_count_10 hO rfl dX8_count_156 ?_
                    refine g_aload_n (pc := 159) (pl := 0) X dX8_count_159 rfl ?_
                    refine g_getf (pc := 160) X zF_X8_count_10 hO rfl dX8_count_160 ?_
                    refine g_getf (pc := 163) X zF_X8_count_155 hPO rfl dX8_count_163 ?_
                    refine g_iconst (pc := 166) X dX8_count_166 ?_
                    obtain ⟨hRO, -⟩ := id hPS
                    refine gVi (pc := 167) (n2 := 0) (k2 := 0) X cs_X8_count_95 (c_X6_item (zl K) D base ((x + 1) + 1) 3 3 (fun i => g (2 + i)) 2 (by omega)) rfl hRO (by omega) hPS rfl ⟨Nat.le_of_ble_eq_true rfl, Nat.le_of_ble_eq_true rfl⟩ dX8_count_167 (Nat.le_of_ble_eq_true rfl) rfl rfl (fun v167 H1 hp167 hs167 => ?_)
                    obtain ⟨rfl, rfl⟩ := hp167
                    rw [show itm 3 (fun i => g (2 + i)) 2 = g 4 from rfl]
                    obtain ⟨mk, mu, mF, mL, mE, mU, mx1, mx2, mx3, hMg0⟩ := id hMg
                    obtain ⟨hMO, -⟩ := id hMg0
                    refine gVv (pc := 170) (n2 := 0) (k2 := 0) X cs_X8_count_158 (c_X1_layOut (zl K) D base (x + 122) mk mu mF mL mE mU mx1 mx2 mx3 (x + 1) g (g 4) (by omega) (by omega) (by omega) hI (by omega)) rfl hMO (by omega) ⟨hMg0, hPg⟩ rfl ⟨Nat.le_of_ble_eq_true rfl, Nat.le_of_ble_eq_true rfl⟩ dX8_count_170 (Nat.le_of_ble_eq_true rfl) rfl rfl (fun H1 hp170 hs170 => ?_)
                    obtain ⟨hPn, hMn, hfu⟩ := hp170
                    obtain ⟨hA1, hFx⟩ := hA.lay hlo hfu hPn ⟨_, _, _, _, _, _, _, _, _, hMn⟩
                    obtain ⟨hMO1, hML1, hME1, -, -⟩ := id hMn
                    obtain ⟨hO1, -⟩ := id hA1
                    have hMO2 : Ob D (x + 122) 1 [.ref (x + 122 + 1), .ref (x + 122 + 3), .int (J (llR g (g 4))), .int (J (laR g (g 4))), .int (J (loR g (g 4))), .ref (x + 122 + 5), .ref (x + 122 + 7)] H1 := hMO1
                    refine g_aload_n (pc := 173) (pl := 0) X dX8_count_173 rfl ?_
                    refine g_getf (pc := 174) X zF_X8_count_19 hO1 rfl dX8_count_174 ?_
                    refine g_getf (pc := 177) X zF_X8_count_184 hMO2 rfl dX8_count_177 ?_
                    refine g_iret (pc := 180) X R hH dX8_count_180 ?_
                    exact ⟨(if_neg (by omega)).trans ((if_neg (by omega)).trans ((if_neg (by omega)).trans ((if_neg (by omega)).trans ((if_neg (by omega)).trans ((if_neg (by omega)).trans ((if_neg (by omega)).trans (if_pos (by omega)))))))), hA1, hFx⟩
                  · skip
                    by_cases cs1_8 : e = 8
                    · skip
                      refine g_tableIn (pc := 1) (off := 180) X 181 dX8_count_1 (by omega) (by omega) (by omega) (by rw [show e - 0 = 8 by omega]; rfl) (by decide) ?_
                      refine g_aload_n (pc := 181) (pl := 0) X dX8_count_181 rfl ?_
                      refine g_getf (pc := 182) X zF_X8_count_10 hO rfl dX8_count_182 ?_
                      refine g_getf (pc := 185) X zF_X8_count_155 hPO rfl dX8_count_185 ?_
                      refine g_iload_n (pc := 188) (pl := 1) X dX8_count_188 rfl ?_
                      refine g_bipush (pc := 189) X dX8_count_189 (by decide +kernel) ?_
                      refine g_isub (pc := 191) X dX8_count_191 ?_
                      obtain ⟨hRO, -⟩ := id hPS
                      refine gVi (pc := 192) (n2 := 0) (k2 := 0) X cs_X8_count_95 (c_X6_item (zl K) D base ((x + 1) + 1) 3 3 (fun i => g (2 + i)) (e - 8) (by omega)) rfl hRO (by omega) hPS rfl ⟨Nat.le_of_ble_eq_true rfl, Nat.le_of_ble_eq_true rfl⟩ dX8_count_192 (Nat.le_of_ble_eq_true rfl) rfl rfl (fun v192 H1 hp192 hs192 => ?_)
                      obtain ⟨rfl, rfl⟩ := hp192
                      rw [show itm 3 (fun i => g (2 + i)) (e - 8) = g (e - 6) from (if_pos (by omega)).trans (congrArg g (by omega))]
                      refine g_iret (pc := 195) X R hH dX8_count_195 ?_
                      exact ⟨(if_neg (by omega)).trans ((if_neg (by omega)).trans ((if_neg (by omega)).trans ((if_neg (by omega)).trans ((if_neg (by omega)).trans ((if_neg (by omega)).trans ((if_neg (by omega)).trans ((if_neg (by omega)).trans (if_pos (by omega))))))))), hA, Fz.refl _ _ _⟩
                    · skip
                      by_cases cs1_9 : e = 9
                      · skip
                        refine g_tableIn (pc := 1) (off := 180) X 181 dX8_count_1 (by omega) (by omega) (by omega) (by rw [show e - 0 = 9 by omega]; rfl) (by decide) ?_
                        refine g_aload_n (pc := 181) (pl := 0) X dX8_count_181 rfl ?_
                        refine g_getf (pc := 182) X zF_X8_count_10 hO rfl dX8_count_182 ?_
                        refine g_getf (pc := 185) X zF_X8_count_155 hPO rfl dX8_count_185 ?_
                        refine g_iload_n (pc := 188) (pl := 1) X dX8_count_188 rfl ?_
                        refine g_bipush (pc := 189) X dX8_count_189 (by decide +kernel) ?_
                        refine g_isub (pc := 191) X dX8_count_191 ?_
                        obtain ⟨hRO, -⟩ := id hPS
                        refine gVi (pc := 192) (n2 := 0) (k2 := 0) X cs_X8_count_95 (c_X6_item (zl K) D base ((x + 1) + 1) 3 3 (fun i => g (2 + i)) (e - 8) (by omega)) rfl hRO (by omega) hPS rfl ⟨Nat.le_of_ble_eq_true rfl, Nat.le_of_ble_eq_true rfl⟩ dX8_count_192 (Nat.le_of_ble_eq_true rfl) rfl rfl (fun v192 H1 hp192 hs192 => ?_)
                        obtain ⟨rfl, rfl⟩ := hp192
                        rw [show itm 3 (fun i => g (2 + i)) (e - 8) = g (e - 6) from (if_pos (by omega)).trans (congrArg g (by omega))]
                        refine g_iret (pc := 195) X R hH dX8_count_195 ?_
                        exact ⟨(if_neg (by omega)).trans ((if_neg (by omega)).trans ((if_neg (by omega)).trans ((if_neg (by omega)).trans ((if_neg (by omega)).trans ((if_neg (by omega)).trans ((if_neg (by omega)).trans ((if_neg (by omega)).trans (if_pos (by omega))))))))), hA, Fz.refl _ _ _⟩
                      · skip
                        by_cases cs1_10 : e = 10
                        · skip
                          refine g_tableIn (pc := 1) (off := 180) X 181 dX8_count_1 (by omega) (by omega) (by omega) (by rw [show e - 0 = 10 by omega]; rfl) (by decide) ?_
                          refine g_aload_n (pc := 181) (pl := 0) X dX8_count_181 rfl ?_
                          refine g_getf (pc := 182) X zF_X8_count_10 hO rfl dX8_count_182 ?_
                          refine g_getf (pc := 185) X zF_X8_count_155 hPO rfl dX8_count_185 ?_
                          refine g_iload_n (pc := 188) (pl := 1) X dX8_count_188 rfl ?_
                          refine g_bipush (pc := 189) X dX8_count_189 (by decide +kernel) ?_
                          refine g_isub (pc := 191) X dX8_count_191 ?_
                          obtain ⟨hRO, -⟩ := id hPS
                          refine gVi (pc := 192) (n2 := 0) (k2 := 0) X cs_X8_count_95 (c_X6_item (zl K) D base ((x + 1) + 1) 3 3 (fun i => g (2 + i)) (e - 8) (by omega)) rfl hRO (by omega) hPS rfl ⟨Nat.le_of_ble_eq_true rfl, Nat.le_of_ble_eq_true rfl⟩ dX8_count_192 (Nat.le_of_ble_eq_true rfl) rfl rfl (fun v192 H1 hp192 hs192 => ?_)
                          obtain ⟨rfl, rfl⟩ := hp192
                          rw [show itm 3 (fun i => g (2 + i)) (e - 8) = g (e - 6) from (if_pos (by omega)).trans (congrArg g (by omega))]
                          refine g_iret (pc := 195) X R hH dX8_count_195 ?_
                          exact ⟨(if_neg (by omega)).trans ((if_neg (by omega)).trans ((if_neg (by omega)).trans ((if_neg (by omega)).trans ((if_neg (by omega)).trans ((if_neg (by omega)).trans ((if_neg (by omega)).trans ((if_neg (by omega)).trans (if_pos (by omega))))))))), hA, Fz.refl _ _ _⟩
                        · skip
                          by_cases cs1_11 : e = 11
                          · skip
                            refine g_tableIn (pc := 1) (off := 195) X 196 dX8_count_1 (by omega) (by omega) (by omega) (by rw [show e - 0 = 11 by omega]; rfl) (by decide) ?_
                            refine g_aload_n (pc := 196) (pl := 0) X dX8_count_196 rfl ?_
                            refine g_getf (pc := 197) X zF_X8_count_35 hO rfl dX8_count_197 ?_
                            obtain ⟨hRO, -⟩ := id hPd
                            refine g_getf (pc := 200) X zF_X8_count_130 hRO rfl dX8_count_200 ?_
                            refine g_iret (pc := 203) X R hH dX8_count_203 ?_
                            exact ⟨(if_neg (by omega)).trans ((if_neg (by omega)).trans ((if_neg (by omega)).trans ((if_neg (by omega)).trans ((if_neg (by omega)).trans ((if_neg (by omega)).trans ((if_neg (by omega)).trans ((if_neg (by omega)).trans ((if_neg (by omega)).trans (if_pos (by omega)))))))))), hA, Fz.refl _ _ _⟩
                          · skip
                            have cs1_12 : e = 12 := by omega
                            refine g_tableIn (pc := 1) (off := 203) X 204 dX8_count_1 (by omega) (by omega) (by omega) (by rw [show e - 0 = 12 by omega]; rfl) (by decide) ?_
                            refine g_aload_n (pc := 204) (pl := 0) X dX8_count_204 rfl ?_
                            refine g_getf (pc := 205) X zF_X8_count_49 hO rfl dX8_count_205 ?_
                            obtain ⟨hHO, -⟩ := id hHs
                            refine g_getf (pc := 208) X zF_X8_count_187 hHO rfl dX8_count_208 ?_
                            refine g_iret (pc := 211) X R hH dX8_count_211 ?_
                            exact ⟨(if_neg (by omega)).trans ((if_neg (by omega)).trans ((if_neg (by omega)).trans ((if_neg (by omega)).trans ((if_neg (by omega)).trans ((if_neg (by omega)).trans ((if_neg (by omega)).trans ((if_neg (by omega)).trans ((if_neg (by omega)).trans ((if_neg (by omega)).trans (if_pos (by omega))))))))))), hA, Fz.refl _ _ _⟩


/-! the orders of a text -/
/-- letters of the pad are written at p, one by one: k more at most, from the pad's place i on -/
def wtS (n : Int) (f : Int → Int) (p lf nx : Int) : Nat → Int → Int × (Int → Int) → Int × (Int → Int)
  | 0, _, s => s
  | k + 1, i, s => if i < nx ∧ 0 ≤ s.1 then wtS n f p lf nx k (i + 1) (wrR s.2 (p + i - lf) (itm n f i - 97), wrG s.2 (p + i - lf) (itm n f i - 97)) else s
theorem wtS_no {n : Int} {f : Int → Int} {p lf nx i : Int} {s : Int × (Int → Int)} (k : Nat) (h : ¬ (i < nx ∧ 0 ≤ s.1)) : wtS n f p lf nx k i s = s := by
  cases k with
  | zero => rfl
  | succ k => exact if_neg h
/-- what an order does -/
def obK (n : Int) (f : Int → Int) (kd a b c lf nx : Int) (g : Int → Int) : Int × (Int → Int) :=
  if kd = 43 then wtS n f a lf nx 80 lf (0, g) else if kd = 45 then (erR g a b, erG g a b) else if kd = 99 then (rcR g a, rcG g a) else if kd = 109 then (mvR g a b c, mvS g a b c) else if kd = 110 then (ntR g a b, ntG g a b)
  else if kd = 114 then (rpR g a, rpG g a) else if kd = 120 then (dpR g a, dpG g a) else (-5, g)
theorem wtS_ok {n : Int} {f : Int → Int} {p lf nx : Int} : ∀ (k : Nat) (i : Int) (s : Int × (Int → Int)), PInv s.2 → -6 ≤ s.1 ∧ s.1 ≤ 100 → PInv (wtS n f p lf nx k i s).2 ∧ -6 ≤ (wtS n f p lf nx k i s).1 ∧ (wtS n f p lf nx k i s).1 ≤ 100
  | 0, _, s, h, h2 => ⟨h, h2⟩
  | k + 1, i, s, h, h2 => by
    simp only [wtS]
    split
    · exact wtS_ok k (i + 1) _ (h.wr _ _) (wrR_rg h _ _)
    · exact ⟨h, h2⟩
theorem obK_ok {n : Int} {f : Int → Int} {kd a b c lf nx : Int} {g : Int → Int} (h : PInv g) : PInv (obK n f kd a b c lf nx g).2 ∧ -6 ≤ (obK n f kd a b c lf nx g).1 ∧ (obK n f kd a b c lf nx g).1 ≤ 100 := by
  unfold obK
  split
  · exact wtS_ok 80 lf (0, g) h ⟨by show (-6 : Int) ≤ 0; omega, by show (0 : Int) ≤ 100; omega⟩
  · split
    · exact ⟨h.er a b, erR_rg a b⟩
    · split
      · exact ⟨h.rc a, rcR_rg h a⟩
      · split
        · exact ⟨h.mvs a b c, mvR_rg h a b c⟩
        · split
          · exact ⟨h.nt' a b, ntR_rg h a b⟩
          · split
            · exact ⟨h.rp a, rpR_rg h a⟩
            · split
              · exact ⟨h.dp a, dpR_rg a⟩
              · exact ⟨h, by show (-6 : Int) ≤ -5; omega, by show (-5 : Int) ≤ 100; omega⟩

abbrev rm_X8_writeRow : Room := { frames := 3, cells := 0, slots := 0, locals := 104 }
theorem zF_X8_writeRow_42 : zF RX8 wsX8_writeRow 8 4 42 := ⟨RX8, TX8, 7, rfl, by decide +kernel, by decide, by decide +kernel⟩
theorem zF_X8_writeRow_255 : zF RX8 wsX8_writeRow 3 2 255 := ⟨RX3, TX3, 4, rfl, by decide +kernel, by decide, by decide +kernel⟩
theorem zF_X8_writeRow_258 : zF RX8 wsX8_writeRow 3 0 258 := ⟨RX3, TX3, 4, rfl, by decide +kernel, by decide, by decide +kernel⟩
theorem zF_X8_writeRow_10 : zF RX8 wsX8_writeRow 8 0 10 := ⟨RX8, TX8, 7, rfl, by decide +kernel, by decide, by decide +kernel⟩
theorem zF_X8_writeRow_35 : zF RX8 wsX8_writeRow 8 3 35 := ⟨RX8, TX8, 7, rfl, by decide +kernel, by decide, by decide +kernel⟩
theorem cs_X8_writeRow_95 : zCV RX8 wsX8_writeRow 95 6 yX6_item wsX6_item cX6_item 2 (some .int) rm_X8_writeRow rm_X6_item 1 := ⟨_, _, gX8_writeRow_X6_item, rfl, ⟨by decide +kernel, by decide +kernel, by decide +kernel⟩, ⟨Nat.le_of_ble_eq_true rfl, Nat.le_of_ble_eq_true rfl⟩, rfl, rfl⟩
theorem cs_X8_writeRow_69 : zCV RX8 wsX8_writeRow 69 4 yX4_writeLetter wsX4_writeLetter cX4_writeLetter 3 (some .int) rm_X8_writeRow rm_X4_writeLetter 2 := ⟨_, _, gX8_writeRow_X4_writeLetter, rfl, ⟨by decide +kernel, by decide +kernel, by decide +kernel⟩, ⟨Nat.le_of_ble_eq_true rfl, Nat.le_of_ble_eq_true rfl⟩, rfl, rfl⟩
set_option maxRecDepth 100000 in
theorem c_X8_writeRow (l : Launch) (D : zD) (base : Nat) (x lo : Nat) (m : Int) (sa sl : Int → Option Nat) (st ss : Int → Int → Int) (g : Int → Int) (n : Int) (f : Int → Int) (p : Int) (nx kd lf cn : Int) (fn : Int → Int) (hq : base ≤ x) (hlo : x + 151 ≤ lo) (hI : PInv g) (hf : ∀ i : Int, 0 ≤ i → i < n → 33 ≤ f i ∧ f i ≤ 126) (hp : -1 ≤ p ∧ p ≤ 100) (hlf : 0 ≤ lf ∧ lf ≤ nx ∧ nx ≤ n) : Ct l yX8_writeRow wsX8_writeRow rm_X8_writeRow D base [.ref x, .int (J p)] (fun H => AnAt D x lo m sa sl st ss g n f H ∧ RdAt D (x + 134) nx kd lf cn fn H) (PI (fun H v H1 => (wtS n f p lf nx 80 lf (0, g)).1 = v ∧ AnAt D x lo m sa sl st ss (wtS n f p lf nx 80 lf (0, g)).2 n f H1 ∧ RdAt D (x + 134) nx kd lf cn fn H1 ∧ Fr (Iv x (x + 140)) 0 H H1)) := by
  refine Ct.of (own := RX8) (cc := cX8_writeRow) (maxL := 4) (by decide +kernel) rfl (Nat.le_of_ble_eq_true rfl) rfl ?_
  intro K H X R hH hnm hP
  show G K 0 0 H 0 [(0, .ref x), (1, .int (J p))] []
  obtain ⟨hA, hRdx⟩ := hP
  obtain ⟨hO, hPg, hMg, hSc, hPd, hRd, hHs, hSl⟩ := id hA
  have hPd0 := hPd.bd
  have hit : ∀ p : Int, -1 ≤ itm n f p ∧ itm n f p ≤ 126 := fun p => by unfold itm; split; (next c => have := hf p c.1 c.2; omega); omega
  obtain ⟨hRdO, hRdN⟩ := id hRdx
  refine g_iconst (pc := 0) X dX8_writeRow_0 ?_
  refine g_istore_n (pc := 1) (lv' := [(2, _), (0, _), (1, _)]) X dX8_writeRow_1 (by decide) rfl ?_
  refine g_aload_n (pc := 2) (pl := 1) X dX8_writeRow_2 rfl ?_
  refine g_getf (pc := 3) X zF_X8_writeRow_42 hO rfl dX8_writeRow_3 ?_
  refine g_getf (pc := 6) X zF_X8_writeRow_255 hRdO rfl dX8_writeRow_6 ?_
  refine g_istore_n (pc := 9) (lv' := [(3, _), (2, _), (0, _), (1, _)]) X dX8_writeRow_9 (by decide) rfl ?_
  have hL10 : ∀ (fu : Nat) (k : Nat) (i a : Int) (g9 : Int → Int) (Hx : Heap), (nx - lf).toNat - k < fu → (i = lf + (k : Int)) → (i ≤ nx) → (wtS n f p lf nx 80 lf (0, g) = wtS n f p lf nx (80 - k) i (a, g9)) → (PInv g9) → (-6 ≤ a ∧ a ≤ 100) → (AnAt D x lo m sa sl st ss g9 n f Hx) → (RdAt D (x + 134) nx kd lf cn fn Hx) → (Fr (Iv x (x + 140)) 0 H Hx) → G K 0 0 Hx 10 [(0, .ref x), (1, .int (J p)), (2, .int (J a)), (3, .int (J i))] [] := by
    intro fu
    induction fu with
    | zero => intro k i a g9 Hx hm; exact absurd hm (Nat.not_lt_zero _)
    | succ fu ih10 =>
      intro k i a g9 Hx hm hik h1 hw hI9 ha hA hRdx h3
      obtain ⟨hO, hPg, hMg, hSc, hPd, hRd, hHs, hSl⟩ := id hA
      obtain ⟨hRdO, hRdN⟩ := id hRdx
      refine g_iload_n (pc := 10) (pl := 3) X dX8_writeRow_10 rfl ?_
      refine g_aload_n (pc := 11) (pl := 0) X dX8_writeRow_11 rfl ?_
      refine g_getf (pc := 12) X zF_X8_writeRow_42 hO rfl dX8_writeRow_12 ?_
      refine g_getf (pc := 15) X zF_X8_writeRow_258 hRdO rfl dX8_writeRow_15 ?_
      refine g_icmp_ge (pc := 18) X 61 dX8_writeRow_18 (by decide) (by omega) (by omega) (fun c18 => ?_) (fun c18 => ?_)
      · skip
        refine g_iload_n (pc := 61) (pl := 2) X dX8_writeRow_61 rfl ?_
        refine g_iret (pc := 62) X R hH dX8_writeRow_62 ?_
        rw [hw, wtS_no _ (show ¬ (i < nx ∧ 0 ≤ a) by omega)]
        exact ⟨rfl, hA, hRdx, h3⟩
      · skip
        refine g_iload_n (pc := 21) (pl := 2) X dX8_writeRow_21 rfl ?_
        refine g_if_lt (pc := 22) X 61 dX8_writeRow_22 (by decide) (by omega) (fun c22 => ?_) (fun c22 => ?_)
        · skip
          refine g_iload_n (pc := 61) (pl := 2) X dX8_writeRow_61 rfl ?_
          refine g_iret (pc := 62) X R hH dX8_writeRow_62 ?_
          rw [hw, wtS_no _ (show ¬ (i < nx ∧ 0 ≤ a) by omega)]
          exact ⟨rfl, hA, hRdx, h3⟩
        · skip
          refine g_aload_n (pc := 25) (pl := 0) X dX8_writeRow_25 rfl ?_
          refine g_getf (pc := 26) X zF_X8_writeRow_10 hO rfl dX8_writeRow_26 ?_
          refine g_iload_n (pc := 29) (pl := 1) X dX8_writeRow_29 rfl ?_
          refine g_iload_n (pc := 30) (pl := 3) X dX8_writeRow_30 rfl ?_
          refine g_iadd (pc := 31) X dX8_writeRow_31 ?_
          refine g_aload_n (pc := 32) (pl := 0) X dX8_writeRow_32 rfl ?_
          refine g_getf (pc := 33) X zF_X8_writeRow_42 hO rfl dX8_writeRow_33 ?_
          refine g_getf (pc := 36) X zF_X8_writeRow_255 hRdO rfl dX8_writeRow_36 ?_
          refine g_isub (pc := 39) X dX8_writeRow_39 ?_
          refine g_aload_n (pc := 40) (pl := 0) X dX8_writeRow_40 rfl ?_
          refine g_getf (pc := 41) X zF_X8_writeRow_35 hO rfl dX8_writeRow_41 ?_
          refine g_iload_n (pc := 44) (pl := 3) X dX8_writeRow_44 rfl ?_
          have hit1 := hit i
          obtain ⟨hRO, -⟩ := id hPd
          refine gVi (pc := 45) (n2 := 0) (k2 := 0) X cs_X8_writeRow_95 (c_X6_item (zl K) D base (x + 132) 80 n f i (by omega)) rfl hRO (by omega) hPd rfl ⟨Nat.le_of_ble_eq_true rfl, Nat.le_of_ble_eq_true rfl⟩ dX8_writeRow_45 (Nat.le_of_ble_eq_true rfl) rfl rfl (fun v45 H1 hp45 hs45 => ?_)
          obtain ⟨rfl, rfl⟩ := hp45
          refine g_bipush (pc := 48) X dX8_writeRow_48 (by decide +kernel) ?_
          refine g_isub (pc := 50) X dX8_writeRow_50 ?_
          obtain ⟨hPO, -⟩ := id hPg
          refine gVi (pc := 51) (n2 := 0) (k2 := 0) X cs_X8_writeRow_69 (c_X4_writeLetter (zl K) D base (x + 1) g9 (p + i - lf) (itm n f i - 97) (by omega) hI9 (by omega) (by omega)) rfl hPO (by omega) hPg rfl ⟨Nat.le_of_ble_eq_true rfl, Nat.le_of_ble_eq_true rfl⟩ dX8_writeRow_51 (Nat.le_of_ble_eq_true rfl) rfl rfl (fun v51 H1 hp51 hs51 => ?_)
          obtain ⟨rfl, hPn, hfq⟩ := hp51
          have hA1 := hA.page hfq hPn hlo
          have hRx1 := hRdx.fr hfq (by omega)
          have hI1 := hI9.wr (p + i - lf) (itm n f i - 97)
          have hr1 := wrR_rg hI9 (p + i - lf) (itm n f i - 97)
          refine g_istore_n (pc := 54) (lv' := [(2, _), (0, _), (1, _), (3, _)]) X dX8_writeRow_54 (by decide) rfl ?_
          refine g_iinc (pc := 55) (pl := 3) (x := i) (lv' := [(3, _), (2, _), (0, _), (1, _)]) X dX8_writeRow_55 rfl (by decide) rfl ?_
          refine g_goto (pc := 58) X 10 dX8_writeRow_58 (by decide) ?_
          refine G.pick [2, 3, 1, 0] (lv' := [(0, _), (1, _), (2, _), (3, _)]) rfl ?_
          have e9 : wtS n f p lf nx (80 - (k + 1) + 1) i (a, g9) = wtS n f p lf nx (80 - (k + 1)) (i + 1) (wrR g9 (p + i - lf) (itm n f i - 97), wrG g9 (p + i - lf) (itm n f i - 97)) := if_pos ⟨by omega, by show 0 ≤ a; omega⟩
          rw [show 80 - (k + 1) + 1 = 80 - k by omega] at e9
          exact ih10 (k + 1) (i + 1) _ _ H1 (by omega) (by omega) (by omega) (hw.trans e9) hI1 hr1 hA1 hRx1 (Fr.trans (h3.wide (by omega) (by omega)) (hfq.wide (by omega) (by omega)))
  refine G.pick [2, 3, 1, 0] (lv' := [(0, _), (1, _), (2, _), (3, _)]) rfl ?_
  exact hL10 _ 0 lf 0 g H (Nat.lt_succ_self _) (by omega) (by omega) rfl hI (by omega) hA hRdx (Fr.refl _ _)

abbrev rm_X8_obey : Room := { frames := 5, cells := 0, slots := 0, locals := 127 }
theorem zF_X8_obey_42 : zF RX8 wsX8_obey 8 4 42 := ⟨RX8, TX8, 7, rfl, by decide +kernel, by decide, by decide +kernel⟩
theorem zF_X8_obey_246 : zF RX8 wsX8_obey 3 3 246 := ⟨RX3, TX3, 4, rfl, by decide +kernel, by decide, by decide +kernel⟩
theorem cs_X8_obey_95 : zCV RX8 wsX8_obey 95 6 yX6_item wsX6_item cX6_item 2 (some .int) rm_X8_obey rm_X6_item 1 := ⟨_, _, gX8_obey_X6_item, rfl, ⟨by decide +kernel, by decide +kernel, by decide +kernel⟩, ⟨Nat.le_of_ble_eq_true rfl, Nat.le_of_ble_eq_true rfl⟩, rfl, rfl⟩
theorem zF_X8_obey_249 : zF RX8 wsX8_obey 3 1 249 := ⟨RX3, TX3, 4, rfl, by decide +kernel, by decide, by decide +kernel⟩
theorem cs_X8_obey_252 : zCV RX8 wsX8_obey 252 8 yX8_writeRow wsX8_writeRow cX8_writeRow 4 (some .int) rm_X8_obey rm_X8_writeRow 1 := ⟨_, _, gX8_obey_X8_writeRow, rfl, ⟨by decide +kernel, by decide +kernel, by decide +kernel⟩, ⟨Nat.le_of_ble_eq_true rfl, Nat.le_of_ble_eq_true rfl⟩, rfl, rfl⟩
theorem zF_X8_obey_10 : zF RX8 wsX8_obey 8 0 10 := ⟨RX8, TX8, 7, rfl, by decide +kernel, by decide, by decide +kernel⟩
theorem cs_X8_obey_72 : zCV RX8 wsX8_obey 72 4 yX4_eraseLetters wsX4_eraseLetters cX4_eraseLetters 4 (some .int) rm_X8_obey rm_X4_eraseLetters 2 := ⟨_, _, gX8_obey_X4_eraseLetters, rfl, ⟨by decide +kernel, by decide +kernel, by decide +kernel⟩, ⟨Nat.le_of_ble_eq_true rfl, Nat.le_of_ble_eq_true rfl⟩, rfl, rfl⟩
theorem zF_X8_obey_26 : zF RX8 wsX8_obey 8 2 26 := ⟨RX8, TX8, 7, rfl, by decide +kernel, by decide, by decide +kernel⟩
theorem cs_X8_obey_88 : zCV RX8 wsX8_obey 88 4 yX4_reclaimNote wsX4_reclaimNote cX4_reclaimNote 4 (some .int) rm_X8_obey rm_X4_reclaimNote 2 := ⟨_, _, gX8_obey_X4_reclaimNote, rfl, ⟨by decide +kernel, by decide +kernel, by decide +kernel⟩, ⟨Nat.le_of_ble_eq_true rfl, Nat.le_of_ble_eq_true rfl⟩, rfl, rfl⟩
theorem cs_X8_obey_75 : zCV RX8 wsX8_obey 75 4 yX4_moveLetters wsX4_moveLetters cX4_moveLetters 6 (some .int) rm_X8_obey rm_X4_moveLetters 3 := ⟨_, _, gX8_obey_X4_moveLetters, rfl, ⟨by decide +kernel, by decide +kernel, by decide +kernel⟩, ⟨Nat.le_of_ble_eq_true rfl, Nat.le_of_ble_eq_true rfl⟩, rfl, rfl⟩
theorem cs_X8_obey_79 : zCV RX8 wsX8_obey 79 4 yX4_addNote wsX4_addNote cX4_addNote 5 (some .int) rm_X8_obey rm_X4_addNote 2 := ⟨_, _, gX8_obey_X4_addNote, rfl, ⟨by decide +kernel, by decide +kernel, by decide +kernel⟩, ⟨Nat.le_of_ble_eq_true rfl, Nat.le_of_ble_eq_true rfl⟩, rfl, rfl⟩
theorem cs_X8_obey_82 : zCV RX8 wsX8_obey 82 4 yX4_addReply wsX4_addReply cX4_addReply 4 (some .int) rm_X8_obey rm_X4_addReply 1 := ⟨_, _, gX8_obey_X4_addReply, rfl, ⟨by decide +kernel, by decide +kernel, by decide +kernel⟩, ⟨Nat.le_of_ble_eq_true rfl, Nat.le_of_ble_eq_true rfl⟩, rfl, rfl⟩
theorem cs_X8_obey_85 : zCV RX8 wsX8_obey 85 4 yX4_dropFamily wsX4_dropFamily cX4_dropFamily 4 (some .int) rm_X8_obey rm_X4_dropFamily 1 := ⟨_, _, gX8_obey_X4_dropFamily, rfl, ⟨by decide +kernel, by decide +kernel, by decide +kernel⟩, ⟨Nat.le_of_ble_eq_true rfl, Nat.le_of_ble_eq_true rfl⟩, rfl, rfl⟩
set_option maxRecDepth 100000 in
theorem c_X8_obey (l : Launch) (D : zD) (base : Nat) (x lo : Nat) (m : Int) (sa sl : Int → Option Nat) (st ss : Int → Int → Int) (g : Int → Int) (n : Int) (f : Int → Int) (nx kd lf cn : Int) (fn : Int → Int) (hq : base ≤ x) (hlo : x + 151 ≤ lo) (hI : PInv g) (hf : ∀ i : Int, 0 ≤ i → i < n → 33 ≤ f i ∧ f i ≤ 126) (h0 : -1 ≤ (itm cn fn 0) ∧ (itm cn fn 0) ≤ 100) (h1 : kd = 45 ∨ kd = 109 ∨ kd = 110 → -1 ≤ (itm cn fn 1) ∧ (itm cn fn 1) ≤ 100) (h2 : kd = 109 → -1 ≤ (itm cn fn 2) ∧ (itm cn fn 2) ≤ 100) (hkd : rg kd) (hlf : kd = 43 → 0 ≤ lf ∧ lf ≤ nx ∧ nx ≤ n) : Ct l yX8_obey wsX8_obey rm_X8_obey D base [.ref x] (fun H => AnAt D x lo m sa sl st ss g n f H ∧ RdAt D (x + 134) nx kd lf cn fn H) (PI (fun H v H1 => (obK n f kd (itm cn fn 0) (itm cn fn 1) (itm cn fn 2) lf nx g).1 = v ∧ AnAt D x lo m sa sl st ss (obK n f kd (itm cn fn 0) (itm cn fn 1) (itm cn fn 2) lf nx g).2 n f H1 ∧ RdAt D (x + 134) nx kd lf cn fn H1 ∧ Fr (Iv x (x + 140)) 0 H H1)) := by
  refine Ct.of (own := RX8) (cc := cX8_obey) (maxL := 3) (by decide +kernel) rfl (Nat.le_of_ble_eq_true rfl) rfl ?_
  intro K H X R hH hnm hP
  show G K 0 0 H 0 [(0, .ref x)] []
  obtain ⟨hA, hRdx⟩ := hP
  obtain ⟨hO, hPg, hMg, hSc, hPd, hRd, hHs, hSl⟩ := id hA
  obtain ⟨hRdO, hRdN⟩ := id hRdx
  refine g_aload_n (pc := 0) (pl := 0) X dX8_obey_0 rfl ?_
  refine g_getf (pc := 1) X zF_X8_obey_42 hO rfl dX8_obey_1 ?_
  refine g_getf (pc := 4) X zF_X8_obey_246 hRdO rfl dX8_obey_4 ?_
  refine g_iconst (pc := 7) X dX8_obey_7 ?_
  obtain ⟨hRO, -⟩ := id hRdN
  refine gVi (pc := 8) (n2 := 0) (k2 := 0) X cs_X8_obey_95 (c_X6_item (zl K) D base (x + 134 + 1) 3 cn fn 0 (by omega)) rfl hRO (by omega) hRdN rfl ⟨Nat.le_of_ble_eq_true rfl, Nat.le_of_ble_eq_true rfl⟩ dX8_obey_8 (Nat.le_of_ble_eq_true rfl) rfl rfl (fun v8 H1 hp8 hs8 => ?_)
  obtain ⟨rfl, rfl⟩ := hp8
  refine g_istore_n (pc := 11) (lv' := [(1, _), (0, _)]) X dX8_obey_11 (by decide) rfl ?_
  refine g_aload_n (pc := 12) (pl := 1) X dX8_obey_12 rfl ?_
  refine g_getf (pc := 13) X zF_X8_obey_42 hO rfl dX8_obey_13 ?_
  refine g_getf (pc := 16) X zF_X8_obey_246 hRdO rfl dX8_obey_16 ?_
  refine g_iconst (pc := 19) X dX8_obey_19 ?_
  obtain ⟨hRO, -⟩ := id hRdN
  refine gVi (pc := 20) (n2 := 0) (k2 := 0) X cs_X8_obey_95 (c_X6_item (zl K) D base (x + 134 + 1) 3 cn fn 1 (by omega)) rfl hRO (by omega) hRdN rfl ⟨Nat.le_of_ble_eq_true rfl, Nat.le_of_ble_eq_true rfl⟩ dX8_obey_20 (Nat.le_of_ble_eq_true rfl) rfl rfl (fun v20 H1 hp20 hs20 => ?_)
  obtain ⟨rfl, rfl⟩ := hp20
  refine g_istore_n (pc := 23) (lv' := [(2, _), (1, _), (0, _)]) X dX8_obey_23 (by decide) rfl ?_
  refine g_aload_n (pc := 24) (pl := 2) X dX8_obey_24 rfl ?_
  refine g_getf (pc := 25) X zF_X8_obey_42 hO rfl dX8_obey_25 ?_
  refine g_getf (pc := 28) X zF_X8_obey_249 hRdO rfl dX8_obey_28 ?_
  by_cases cs31_0 : kd = 43
  · skip
    refine g_lookup (pc := 31) (a := kd) (off := 65) X 96 dX8_obey_31 (by omega) (by decide) (by rw [cs31_0]; decide) (by decide) ?_
    refine g_aload_n (pc := 96) (pl := 2) X dX8_obey_96 rfl ?_
    refine g_iload_n (pc := 97) (pl := 1) X dX8_obey_97 rfl ?_
    refine gVi (pc := 98) (n2 := 0) (k2 := 0) X cs_X8_obey_252 (c_X8_writeRow (zl K) D base x lo m sa sl st ss g n f (itm cn fn 0) nx kd lf cn fn hq hlo hI hf h0 (by omega)) rfl hO (by omega) ⟨hA, hRdx⟩ rfl ⟨Nat.le_of_ble_eq_true rfl, Nat.le_of_ble_eq_true rfl⟩ dX8_obey_98 (Nat.le_of_ble_eq_true rfl) rfl rfl (fun v98 H1 hp98 hs98 => ?_)
    obtain ⟨rfl, hA1, hRx1, hfq⟩ := hp98
    refine g_iret (pc := 101) X R hH dX8_obey_101 ?_
    have eo : obK n f kd (itm cn fn 0) (itm cn fn 1) (itm cn fn 2) lf nx g = _ := if_pos (by omega)
    rw [eo]
    exact ⟨rfl, hA1, hRx1, hfq.wide (by omega) (by omega)⟩
  · skip
    by_cases cs31_1 : kd = 45
    · skip
      refine g_lookup (pc := 31) (a := kd) (off := 71) X 102 dX8_obey_31 (by omega) (by decide) (by rw [cs31_1]; decide) (by decide) ?_
      refine g_aload_n (pc := 102) (pl := 2) X dX8_obey_102 rfl ?_
      refine g_getf (pc := 103) X zF_X8_obey_10 hO rfl dX8_obey_103 ?_
      refine g_iload_n (pc := 106) (pl := 1) X dX8_obey_106 rfl ?_
      refine g_iload_n (pc := 107) (pl := 0) X dX8_obey_107 rfl ?_
      obtain ⟨hPO, -⟩ := id hPg
      refine gVi (pc := 108) (n2 := 0) (k2 := 0) X cs_X8_obey_72 (c_X4_eraseLetters (zl K) D base (x + 1) g (itm cn fn 0) (itm cn fn 1) (by omega) hI (by omega) (by omega)) rfl hPO (by omega) hPg rfl ⟨Nat.le_of_ble_eq_true rfl, Nat.le_of_ble_eq_true rfl⟩ dX8_obey_108 (Nat.le_of_ble_eq_true rfl) rfl rfl (fun v108 H1 hp108 hs108 => ?_)
      obtain ⟨rfl, hPn, hfq⟩ := hp108
      have hA1 := hA.page hfq hPn hlo
      have hRx1 := hRdx.fr hfq (by omega)
      refine g_iret (pc := 111) X R hH dX8_obey_111 ?_
      have eo : obK n f kd (itm cn fn 0) (itm cn fn 1) (itm cn fn 2) lf nx g = _ := (if_neg (by omega)).trans (if_pos (by omega))
      rw [eo]
      exact ⟨rfl, hA1, hRx1, hfq.wide (by omega) (by omega)⟩
    · skip
      by_cases cs31_2 : kd = 99
      · skip
        refine g_lookup (pc := 31) (a := kd) (off := 130) X 161 dX8_obey_31 (by omega) (by decide) (by rw [cs31_2]; decide) (by decide) ?_
        refine g_aload_n (pc := 161) (pl := 2) X dX8_obey_161 rfl ?_
        refine g_getf (pc := 162) X zF_X8_obey_10 hO rfl dX8_obey_162 ?_
        refine g_iload_n (pc := 165) (pl := 1) X dX8_obey_165 rfl ?_
        refine g_aload_n (pc := 166) (pl := 2) X dX8_obey_166 rfl ?_
        refine g_getf (pc := 167) X zF_X8_obey_26 hO rfl dX8_obey_167 ?_
        obtain ⟨hPO, -⟩ := id hPg
        obtain ⟨z1, z2, z3, hSO⟩ := id hSc
        refine gVi (pc := 170) (n2 := 0) (k2 := 0) X cs_X8_obey_88 (c_X4_reclaimNote (zl K) D base (x + 1) (x + 131) g (itm cn fn 0) z1 z2 z3 (by omega) hI (by omega) (by omega) (by omega)) rfl hPO (by omega) ⟨hPg, hSO⟩ rfl ⟨Nat.le_of_ble_eq_true rfl, Nat.le_of_ble_eq_true rfl⟩ dX8_obey_170 (Nat.le_of_ble_eq_true rfl) rfl rfl (fun v170 H1 hp170 hs170 => ?_)
        obtain ⟨rfl, hPn, hSOn, Ha, Hb, hfa, hfb, hfc⟩ := hp170
        have hA1 : AnAt D x lo m sa sl st ss (rcG g (itm cn fn 0)) n f H1 := ⟨((hO.fr hfa (by omega)).fr hfb (by omega)).fr hfc (by omega), hPn, ((hMg.fr hfa (by omega)).fr hfb (by omega)).fr hfc (by omega), hSOn, ((hPd.fr hfa (by omega)).fr hfb (by omega)).fr hfc (by omega), ((hRd.fr hfa (by omega)).fr hfb (by omega)).fr hfc (by omega), ((hHs.fr hfa (by omega)).fr hfb (by omega)).fr hfc (by omega), ((hSl.fr hfa (by omega)).fr hfb (by omega)).fr hfc (by omega)⟩
        have hRx1 := ((hRdx.fr hfa (by omega)).fr hfb (by omega)).fr hfc (by omega)
        have hfq : Fr (Iv x (x + 140)) 0 H H1 := ((hfa.wide (by omega) (by omega)).trans (hfb.wide (by omega) (by omega))).trans (hfc.wide (by omega) (by omega))
        refine g_iret (pc := 173) X R hH dX8_obey_173 ?_
        have eo : obK n f kd (itm cn fn 0) (itm cn fn 1) (itm cn fn 2) lf nx g = _ := (if_neg (by omega)).trans ((if_neg (by omega)).trans (if_pos (by omega)))
        rw [eo]
        exact ⟨rfl, hA1, hRx1, hfq.wide (by omega) (by omega)⟩
      · skip
        by_cases cs31_3 : kd = 109
        · skip
          refine g_lookup (pc := 31) (a := kd) (off := 81) X 112 dX8_obey_31 (by omega) (by decide) (by rw [cs31_3]; decide) (by decide) ?_
          refine g_aload_n (pc := 112) (pl := 2) X dX8_obey_112 rfl ?_
          refine g_getf (pc := 113) X zF_X8_obey_10 hO rfl dX8_obey_113 ?_
          refine g_iload_n (pc := 116) (pl := 1) X dX8_obey_116 rfl ?_
          refine g_iload_n (pc := 117) (pl := 0) X dX8_obey_117 rfl ?_
          refine g_aload_n (pc := 118) (pl := 2) X dX8_obey_118 rfl ?_
          refine g_getf (pc := 119) X zF_X8_obey_42 hO rfl dX8_obey_119 ?_
          refine g_getf (pc := 122) X zF_X8_obey_246 hRdO rfl dX8_obey_122 ?_
          refine g_iconst (pc := 125) X dX8_obey_125 ?_
          obtain ⟨hRO, -⟩ := id hRdN
          refine gVi (pc := 126) (n2 := 0) (k2 := 0) X cs_X8_obey_95 (c_X6_item (zl K) D base (x + 134 + 1) 3 cn fn 2 (by omega)) rfl hRO (by omega) hRdN rfl ⟨Nat.le_of_ble_eq_true rfl, Nat.le_of_ble_eq_true rfl⟩ dX8_obey_126 (Nat.le_of_ble_eq_true rfl) rfl rfl (fun v126 H1 hp126 hs126 => ?_)
          obtain ⟨rfl, rfl⟩ := hp126
          obtain ⟨hPO, -⟩ := id hPg
          refine gVi (pc := 129) (n2 := 0) (k2 := 0) X cs_X8_obey_75 (c_X4_moveLetters (zl K) D base (x + 1) g (itm cn fn 0) (itm cn fn 1) (itm cn fn 2) (by omega) hI (by omega) (by omega) (by omega)) rfl hPO (by omega) hPg rfl ⟨Nat.le_of_ble_eq_true rfl, Nat.le_of_ble_eq_true rfl⟩ dX8_obey_129 (Nat.le_of_ble_eq_true rfl) rfl rfl (fun v129 H1 hp129 hs129 => ?_)
          obtain ⟨rfl, hPn, hfq⟩ := hp129
          have hA1 := hA.page hfq hPn hlo
          have hRx1 := hRdx.fr hfq (by omega)
          refine g_iret (pc := 132) X R hH dX8_obey_132 ?_
          have eo : obK n f kd (itm cn fn 0) (itm cn fn 1) (itm cn fn 2) lf nx g = _ := (if_neg (by omega)).trans ((if_neg (by omega)).trans ((if_neg (by omega)).trans (if_pos (by omega))))
          rw [eo]
          exact ⟨rfl, hA1, hRx1, hfq.wide (by omega) (by omega)⟩
        · skip
          by_cases cs31_4 : kd = 110
          · skip
            refine g_lookup (pc := 31) (a := kd) (off := 102) X 133 dX8_obey_31 (by omega) (by decide) (by rw [cs31_4]; decide) (by decide) ?_
            refine g_aload_n (pc := 133) (pl := 2) X dX8_obey_133 rfl ?_
            refine g_getf (pc := 134) X zF_X8_obey_10 hO rfl dX8_obey_134 ?_
            refine g_iload_n (pc := 137) (pl := 1) X dX8_obey_137 rfl ?_
            refine g_iload_n (pc := 138) (pl := 0) X dX8_obey_138 rfl ?_
            obtain ⟨hPO, -⟩ := id hPg
            refine gVi (pc := 139) (n2 := 0) (k2 := 0) X cs_X8_obey_79 (c_X4_addNote (zl K) D base (x + 1) g (itm cn fn 0) (itm cn fn 1) (by omega) hI (by omega) (by omega)) rfl hPO (by omega) hPg rfl ⟨Nat.le_of_ble_eq_true rfl, Nat.le_of_ble_eq_true rfl⟩ dX8_obey_139 (Nat.le_of_ble_eq_true rfl) rfl rfl (fun v139 H1 hp139 hs139 => ?_)
            obtain ⟨rfl, hPn, hfq⟩ := hp139
            have hA1 := hA.page hfq hPn hlo
            have hRx1 := hRdx.fr hfq (by omega)
            refine g_iret (pc := 142) X R hH dX8_obey_142 ?_
            have eo : obK n f kd (itm cn fn 0) (itm cn fn 1) (itm cn fn 2) lf nx g = _ := (if_neg (by omega)).trans ((if_neg (by omega)).trans ((if_neg (by omega)).trans ((if_neg (by omega)).trans (if_pos (by omega)))))
            rw [eo]
            exact ⟨rfl, hA1, hRx1, hfq.wide (by omega) (by omega)⟩
          · skip
            by_cases cs31_5 : kd = 114
            · skip
              refine g_lookup (pc := 31) (a := kd) (off := 112) X 143 dX8_obey_31 (by omega) (by decide) (by rw [cs31_5]; decide) (by decide) ?_
              refine g_aload_n (pc := 143) (pl := 2) X dX8_obey_143 rfl ?_
              refine g_getf (pc := 144) X zF_X8_obey_10 hO rfl dX8_obey_144 ?_
              refine g_iload_n (pc := 147) (pl := 1) X dX8_obey_147 rfl ?_
              obtain ⟨hPO, -⟩ := id hPg
              refine gVi (pc := 148) (n2 := 0) (k2 := 0) X cs_X8_obey_82 (c_X4_addReply (zl K) D base (x + 1) g (itm cn fn 0) (by omega) hI (by omega)) rfl hPO (by omega) hPg rfl ⟨Nat.le_of_ble_eq_true rfl, Nat.le_of_ble_eq_true rfl⟩ dX8_obey_148 (Nat.le_of_ble_eq_true rfl) rfl rfl (fun v148 H1 hp148 hs148 => ?_)
              obtain ⟨rfl, hPn, hfq⟩ := hp148
              have hA1 := hA.page hfq hPn hlo
              have hRx1 := hRdx.fr hfq (by omega)
              refine g_iret (pc := 151) X R hH dX8_obey_151 ?_
              have eo : obK n f kd (itm cn fn 0) (itm cn fn 1) (itm cn fn 2) lf nx g = _ := (if_neg (by omega)).trans ((if_neg (by omega)).trans ((if_neg (by omega)).trans ((if_neg (by omega)).trans ((if_neg (by omega)).trans (if_pos (by omega))))))
              rw [eo]
              exact ⟨rfl, hA1, hRx1, hfq.wide (by omega) (by omega)⟩
            · skip
              by_cases cs31_6 : kd = 120
              · skip
                refine g_lookup (pc := 31) (a := kd) (off := 121) X 152 dX8_obey_31 (by omega) (by decide) (by rw [cs31_6]; decide) (by decide) ?_
                refine g_aload_n (pc := 152) (pl := 2) X dX8_obey_152 rfl ?_
                refine g_getf (pc := 153) X zF_X8_obey_10 hO rfl dX8_obey_153 ?_
                refine g_iload_n (pc := 156) (pl := 1) X dX8_obey_156 rfl ?_
                obtain ⟨hPO, -⟩ := id hPg
                refine gVi (pc := 157) (n2 := 0) (k2 := 0) X cs_X8_obey_85 (c_X4_dropFamily (zl K) D base (x + 1) g (itm cn fn 0) (by omega) hI (by omega)) rfl hPO (by omega) hPg rfl ⟨Nat.le_of_ble_eq_true rfl, Nat.le_of_ble_eq_true rfl⟩ dX8_obey_157 (Nat.le_of_ble_eq_true rfl) rfl rfl (fun v157 H1 hp157 hs157 => ?_)
                obtain ⟨rfl, hPn, hfq⟩ := hp157
                have hA1 := hA.page hfq hPn hlo
                have hRx1 := hRdx.fr hfq (by omega)
                refine g_iret (pc := 160) X R hH dX8_obey_160 ?_
                have eo : obK n f kd (itm cn fn 0) (itm cn fn 1) (itm cn fn 2) lf nx g = _ := (if_neg (by omega)).trans ((if_neg (by omega)).trans ((if_neg (by omega)).trans ((if_neg (by omega)).trans ((if_neg (by omega)).trans ((if_neg (by omega)).trans (if_pos (by omega)))))))
                rw [eo]
                exact ⟨rfl, hA1, hRx1, hfq.wide (by omega) (by omega)⟩
              · skip
                refine g_lookup (pc := 31) (a := kd) (off := 143) X 174 dX8_obey_31 (by omega) (by decide) (by simp [Op.lookupswitch.offset, show ¬ ((43 : Int) = kd) from fun e => cs31_0 e.symm, show ¬ ((45 : Int) = kd) from fun e => cs31_1 e.symm, show ¬ ((99 : Int) = kd) from fun e => cs31_2 e.symm, show ¬ ((109 : Int) = kd) from fun e => cs31_3 e.symm, show ¬ ((110 : Int) = kd) from fun e => cs31_4 e.symm, show ¬ ((114 : Int) = kd) from fun e => cs31_5 e.symm, show ¬ ((120 : Int) = kd) from fun e => cs31_6 e.symm, cs31_0, cs31_1, cs31_2, cs31_3, cs31_4, cs31_5, cs31_6]) (by decide) ?_
                refine g_bipush (pc := 174) X dX8_obey_174 (by decide +kernel) ?_
                refine g_iret (pc := 176) X R hH dX8_obey_176 ?_
                have eo : obK n f kd (itm cn fn 0) (itm cn fn 1) (itm cn fn 2) lf nx g = _ := (if_neg (by omega)).trans ((if_neg (by omega)).trans ((if_neg (by omega)).trans ((if_neg (by omega)).trans ((if_neg (by omega)).trans ((if_neg (by omega)).trans (if_neg (by omega)))))))
                rw [eo]
                exact ⟨rfl, hA, hRdx, Fr.refl _ _⟩

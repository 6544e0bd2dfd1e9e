abbrev rm_X4_eraseLetters : Room := { frames := 3, cells := 0, slots := 0, locals := 82 }
theorem cs_X4_eraseLetters_82 : zCV RX4 wsX4_eraseLetters 82 4 yX4_orphanedBy wsX4_orphanedBy cX4_orphanedBy 7 (some .int) rm_X4_eraseLetters rm_X4_orphanedBy 2 := ⟨_, _, gX4_eraseLetters_X4_orphanedBy, rfl, ⟨by decide +kernel, by decide +kernel, by decide +kernel⟩, ⟨Nat.le_of_ble_eq_true rfl, Nat.le_of_ble_eq_true rfl⟩, rfl, rfl⟩
theorem zF_X4_eraseLetters_20 : zF RX4 wsX4_eraseLetters 4 1 20 := ⟨RX4, TX4, 6, rfl, by decide +kernel, by decide, by decide +kernel⟩
theorem cs_X4_eraseLetters_86 : zCV RX4 wsX4_eraseLetters 86 6 yX6_cut wsX6_cut cX6_cut 3 none rm_X4_eraseLetters rm_X6_cut 2 := ⟨_, _, gX4_eraseLetters_X6_cut, rfl, ⟨by decide +kernel, by decide +kernel, by decide +kernel⟩, ⟨Nat.le_of_ble_eq_true rfl, Nat.le_of_ble_eq_true rfl⟩, rfl, rfl⟩
theorem zF_X4_eraseLetters_23 : zF RX4 wsX4_eraseLetters 4 2 23 := ⟨RX4, TX4, 6, rfl, by decide +kernel, by decide, by decide +kernel⟩
theorem cs_X4_eraseLetters_89 : zCJ RX4 wsX4_eraseLetters 89 yJ6_bitCount_0f7a4 wsJ6_bitCount_0f7a4 cJ6_bitCount_0f7a4 1 (some .int) rm_X4_eraseLetters rm_J6_bitCount_0f7a4 1 := ⟨_, gX4_eraseLetters_J6_bitCount_0f7a4, rfl, ⟨by decide +kernel, by decide +kernel, by decide +kernel⟩, ⟨Nat.le_of_ble_eq_true rfl, Nat.le_of_ble_eq_true rfl⟩⟩
set_option maxRecDepth 100000 in
theorem c_X4_eraseLetters (l : Launch) (D : zD) (base : Nat) (q : Nat) (g : Int → Int) (a b : Int) (hq : base ≤ q) (hI : PInv g) (ha : rg a) (hb : rg b) : Ct l yX4_eraseLetters wsX4_eraseLetters rm_X4_eraseLetters D base [.ref q, .int (J a), .int (J b)] (fun H => PageAt D q g H) (PI (fun H v H1 => erR g a b = v ∧ PageAt D q (erG g a b) H1 ∧ Fr (Iv q (q + 121)) 0 H H1)) := by
  refine Ct.of (own := RX4) (cc := cX4_eraseLetters) (maxL := 4) (by decide +kernel) rfl (Nat.le_of_ble_eq_true rfl) rfl ?_
  intro K H X R hH hnm hP
  show G K 0 0 H 0 [(0, .ref q), (1, .int (J a)), (2, .int (J b))] []
  have hPg := hP
  obtain ⟨hO, hS, hL, hW, hN, hQ, hk0, hk1⟩ := hP
  have hnum := hI.nums
  refine g_aload_n (pc := 0) (pl := 0) X dX4_eraseLetters_0 rfl ?_
  refine g_iload_n (pc := 1) (pl := 1) X dX4_eraseLetters_1 rfl ?_
  refine g_iload_n (pc := 2) (pl := 2) X dX4_eraseLetters_2 rfl ?_
  refine gVi (pc := 3) (n2 := 0) (k2 := 0) X cs_X4_eraseLetters_82 (c_X4_orphanedBy (zl K) D base q g a b hq hI ha hb) rfl hO (by omega) hPg rfl ⟨Nat.le_of_ble_eq_true rfl, Nat.le_of_ble_eq_true rfl⟩ dX4_eraseLetters_3 (Nat.le_of_ble_eq_true rfl) rfl rfl (fun v3 H1 hp3 hs3 => ?_)
  obtain ⟨rfl, rfl⟩ := hp3
  have hpe := perr_bd g a b
  have hob := ors_bd hI a b
  have hor : (perr g a b < 0 ∧ orR g a b = perr g a b) ∨ (¬ perr g a b < 0 ∧ orR g a b = ors g a b) := by unfold orR; by_cases c : perr g a b < 0; (left; exact ⟨c, if_pos c⟩); (right; exact ⟨c, if_neg c⟩)
  refine g_istore_n (pc := 6) (lv' := [(3, _), (0, _), (1, _), (2, _)]) X dX4_eraseLetters_6 (by decide) rfl ?_
  refine g_iload_n (pc := 7) (pl := 0) X dX4_eraseLetters_7 rfl ?_
  refine g_if_ge (pc := 8) X 13 dX4_eraseLetters_8 (by decide) (by omega) (fun c8 => ?_) (fun c8 => ?_)
  · skip
    have hab := perr_ok (g := g) (a := a) (b := b) (by omega)
    refine g_aload_n (pc := 13) (pl := 1) X dX4_eraseLetters_13 rfl ?_
    refine g_getf (pc := 14) X zF_X4_eraseLetters_20 hO rfl dX4_eraseLetters_14 ?_
    refine g_iload_n (pc := 17) (pl := 2) X dX4_eraseLetters_17 rfl ?_
    refine g_iload_n (pc := 18) (pl := 3) X dX4_eraseLetters_18 rfl ?_
    obtain ⟨hRO, -⟩ := id hL
    refine gVv (pc := 19) (n2 := 0) (k2 := 0) X cs_X4_eraseLetters_86 (c_X6_cut (zl K) D base (q + 3) 60 (g 0) (LT g) a b (by omega) (by omega)) rfl hRO (by omega) hL rfl ⟨Nat.le_of_ble_eq_true rfl, Nat.le_of_ble_eq_true rfl⟩ dX4_eraseLetters_19 (Nat.le_of_ble_eq_true rfl) rfl rfl (fun H1 hp19 hs19 => ?_)
    obtain ⟨hLn, hfa⟩ := hp19
    replace hO := hO.fr hfa (by omega)
    replace hS := hS.fr hfa (by omega)
    replace hW := hW.fr hfa (by omega)
    replace hN := hN.fr hfa (by omega)
    replace hQ := hQ.fr hfa (by omega)
    replace hL := hLn
    clear hLn
    refine g_aload_n (pc := 22) (pl := 1) X dX4_eraseLetters_22 rfl ?_
    refine g_getf (pc := 23) X zF_X4_eraseLetters_23 hO rfl dX4_eraseLetters_23 ?_
    refine g_iload_n (pc := 26) (pl := 2) X dX4_eraseLetters_26 rfl ?_
    refine g_iload_n (pc := 27) (pl := 3) X dX4_eraseLetters_27 rfl ?_
    obtain ⟨hRO, -⟩ := id hW
    refine gVv (pc := 28) (n2 := 0) (k2 := 0) X cs_X4_eraseLetters_86 (c_X6_cut (zl K) D base (q + 5) 60 (g 0) (OW g) a b (by omega) (by omega)) rfl hRO (by omega) hW rfl ⟨Nat.le_of_ble_eq_true rfl, Nat.le_of_ble_eq_true rfl⟩ dX4_eraseLetters_28 (Nat.le_of_ble_eq_true rfl) rfl rfl (fun H2 hp28 hs28 => ?_)
    obtain ⟨hWn, hfb⟩ := hp28
    replace hO := hO.fr hfb (by omega)
    replace hS := hS.fr hfb (by omega)
    replace hL := hL.fr hfb (by omega)
    replace hN := hN.fr hfb (by omega)
    replace hQ := hQ.fr hfb (by omega)
    replace hW := hWn
    clear hWn
    refine g_iload_n (pc := 31) (pl := 0) X dX4_eraseLetters_31 rfl ?_
    rw [show orR g a b = ((ors g a b).toNat : Int) by omega]
    refine gJi (pc := 32) (n2 := 0) (k2 := 0) X cs_X4_eraseLetters_89 (c_J6_bitCount (zl K) D base (ors g a b).toNat (by omega)) rfl (by have := hO.lt; omega) trivial rfl ⟨Nat.le_of_ble_eq_true rfl, Nat.le_of_ble_eq_true rfl⟩ dX4_eraseLetters_32 (Nat.le_of_ble_eq_true rfl) rfl rfl (fun v32 H3 hp32 hs32 => ?_)
    obtain ⟨rfl, rfl⟩ := hp32
    refine g_iret (pc := 35) X R hH dX4_eraseLetters_35 ?_
    obtain ⟨y0, y1, yl, yw, yh⟩ := dlG_at (g := g) (a := a) (b := b)
    refine ⟨?_, ?_, (Fr.trans (hfa.wide (by omega) (by omega)) (hfb.wide (by omega) (by omega)))⟩
    · unfold erR; rw [if_neg (by omega), Int.toNat_of_nonneg (by omega)]
    · rw [show erG g a b = dlG g a b from if_neg (by omega)]
      exact ⟨by rw [y1 1 (by omega) (by omega)]; exact hO, hS.congr (fun i h0 h1 => (y1 _ (by omega) (by omega)).symm), by rw [y0]; exact hL.congr (fun i h0 h1 => (yl i h0 (by omega)).symm), by rw [y0]; exact hW.congr (fun i h0 h1 => (yw i h0 (by omega)).symm), hN.hi (y1 1 (by omega) (by omega)).symm (fun j h => (yh j h).symm), hQ, by rw [y1 1 (by omega) (by omega)]; omega, by rw [y1 1 (by omega) (by omega)]; omega⟩
  · skip
    refine g_iload_n (pc := 11) (pl := 0) X dX4_eraseLetters_11 rfl ?_
    refine g_iret (pc := 12) X R hH dX4_eraseLetters_12 ?_
    exact ⟨by unfold erR; rw [if_pos (by omega)]; omega, by rw [show erG g a b = g from if_pos (by omega)]; exact hPg, Fr.refl _ _⟩

abbrev rm_X4_moveLetters : Room := { frames := 4, cells := 0, slots := 0, locals := 92 }
theorem cs_X4_moveLetters_94 : zCV RX4 wsX4_moveLetters 94 4 yX4_passageError wsX4_passageError cX4_passageError 3 (some .int) rm_X4_moveLetters rm_X4_passageError 2 := ⟨_, _, gX4_moveLetters_X4_passageError, rfl, ⟨by decide +kernel, by decide +kernel, by decide +kernel⟩, ⟨Nat.le_of_ble_eq_true rfl, Nat.le_of_ble_eq_true rfl⟩, rfl, rfl⟩
theorem zF_X4_moveLetters_20 : zF RX4 wsX4_moveLetters 4 1 20 := ⟨RX4, TX4, 6, rfl, by decide +kernel, by decide, by decide +kernel⟩
theorem zF_X4_moveLetters_76 : zF RX4 wsX4_moveLetters 6 1 76 := ⟨RX6, TX6, 2, rfl, by decide +kernel, by decide, by decide +kernel⟩
theorem cs_X4_moveLetters_97 : zCV RX4 wsX4_moveLetters 97 6 yX6_shift wsX6_shift cX6_shift 4 none rm_X4_moveLetters rm_X6_shift 3 := ⟨_, _, gX4_moveLetters_X6_shift, rfl, ⟨by decide +kernel, by decide +kernel, by decide +kernel⟩, ⟨Nat.le_of_ble_eq_true rfl, Nat.le_of_ble_eq_true rfl⟩, rfl, rfl⟩
theorem zF_X4_moveLetters_23 : zF RX4 wsX4_moveLetters 4 2 23 := ⟨RX4, TX4, 6, rfl, by decide +kernel, by decide, by decide +kernel⟩
theorem cs_X4_moveLetters_101 : zCV RX4 wsX4_moveLetters 101 4 yX4_countParted wsX4_countParted cX4_countParted 3 (some .int) rm_X4_moveLetters rm_X4_countParted 0 := ⟨_, _, gX4_moveLetters_X4_countParted, rfl, ⟨by decide +kernel, by decide +kernel, by decide +kernel⟩, ⟨Nat.le_of_ble_eq_true rfl, Nat.le_of_ble_eq_true rfl⟩, rfl, rfl⟩
set_option maxRecDepth 100000 in
theorem c_X4_moveLetters (l : Launch) (D : zD) (base : Nat) (q : Nat) (g : Int → Int) (a b p : Int) (hq : base ≤ q) (hI : PInv g) (ha : rg a) (hb : rg b) (hp : rg p) : Ct l yX4_moveLetters wsX4_moveLetters rm_X4_moveLetters D base [.ref q, .int (J a), .int (J b), .int (J p)] (fun H => PageAt D q g H) (PI (fun H v H1 => mvR g a b p = v ∧ PageAt D q (mvS g a b p) H1 ∧ Fr (Iv q (q + 121)) 0 H H1)) := by
  refine Ct.of (own := RX4) (cc := cX4_moveLetters) (maxL := 6) (by decide +kernel) rfl (Nat.le_of_ble_eq_true rfl) rfl ?_
  intro K H X R hH hnm hP
  show G K 0 0 H 0 [(0, .ref q), (1, .int (J a)), (2, .int (J b)), (3, .int (J p))] []
  have hPg := hP
  obtain ⟨hO, hS, hL, hW, hN, hQ, hk0, hk1⟩ := hP
  have hnum := hI.nums
  refine g_aload_n (pc := 0) (pl := 0) X dX4_moveLetters_0 rfl ?_
  refine g_iload_n (pc := 1) (pl := 1) X dX4_moveLetters_1 rfl ?_
  refine g_iload_n (pc := 2) (pl := 2) X dX4_moveLetters_2 rfl ?_
  refine gVi (pc := 3) (n2 := 0) (k2 := 0) X cs_X4_moveLetters_94 (c_X4_passageError (zl K) D base q g a b hq ha hb) rfl hO (by omega) ⟨hO, hL⟩ rfl ⟨Nat.le_of_ble_eq_true rfl, Nat.le_of_ble_eq_true rfl⟩ dX4_moveLetters_3 (Nat.le_of_ble_eq_true rfl) rfl rfl (fun v3 H1 hp3 hs3 => ?_)
  obtain ⟨rfl, rfl⟩ := hp3
  have hpe := perr_bd g a b
  refine g_istore (pc := 6) (lv' := [(4, _), (0, _), (1, _), (2, _), (3, _)]) X dX4_moveLetters_6 (by decide) rfl ?_
  refine g_iload (pc := 8) (pl := 0) X dX4_moveLetters_8 rfl ?_
  refine g_if_ge (pc := 10) X 16 dX4_moveLetters_10 (by decide) (by omega) (fun c10 => ?_) (fun c10 => ?_)
  · skip
    have hab := perr_ok (g := g) (a := a) (b := b) (by omega)
    refine g_aload_n (pc := 16) (pl := 1) X dX4_moveLetters_16 rfl ?_
    refine g_getf (pc := 17) X zF_X4_moveLetters_20 hO rfl dX4_moveLetters_17 ?_
    obtain ⟨hRO, -⟩ := id hL
    refine g_getf (pc := 20) X zF_X4_moveLetters_76 hRO rfl dX4_moveLetters_20 ?_
    refine g_iload_n (pc := 23) (pl := 3) X dX4_moveLetters_23 rfl ?_
    refine g_iload_n (pc := 24) (pl := 2) X dX4_moveLetters_24 rfl ?_
    refine g_isub (pc := 25) X dX4_moveLetters_25 ?_
    refine g_iconst (pc := 26) X dX4_moveLetters_26 ?_
    refine g_iadd (pc := 27) X dX4_moveLetters_27 ?_
    refine g_isub (pc := 28) X dX4_moveLetters_28 ?_
    refine g_istore (pc := 29) (lv' := [(5, _), (4, _), (0, _), (1, _), (2, _), (3, _)]) X dX4_moveLetters_29 (by decide) rfl ?_
    refine g_iload_n (pc := 31) (pl := 5) X dX4_moveLetters_31 rfl ?_
    refine g_if_lt (pc := 32) X 41 dX4_moveLetters_32 (by decide) (by omega) (fun c32 => ?_) (fun c32 => ?_)
    · skip
      refine g_bipush (pc := 41) X dX4_moveLetters_41 (by decide +kernel) ?_
      refine g_iret (pc := 43) X R hH dX4_moveLetters_43 ?_
      have hm : mverr g a b p = -2 := by unfold mverr; rw [if_neg (by omega), if_pos (by omega)]
      exact ⟨by unfold mvR; rw [hm, if_pos (by omega)], by rw [show mvS g a b p = g from if_pos (by omega)]; exact hPg, Fr.refl _ _⟩
    · skip
      refine g_iload_n (pc := 35) (pl := 5) X dX4_moveLetters_35 rfl ?_
      refine g_iload (pc := 36) (pl := 0) X dX4_moveLetters_36 rfl ?_
      refine g_icmp_le (pc := 38) X 44 dX4_moveLetters_38 (by decide) (by omega) (by omega) (fun c38 => ?_) (fun c38 => ?_)
      · skip
        refine g_aload_n (pc := 44) (pl := 2) X dX4_moveLetters_44 rfl ?_
        refine g_getf (pc := 45) X zF_X4_moveLetters_20 hO rfl dX4_moveLetters_45 ?_
        refine g_iload_n (pc := 48) (pl := 3) X dX4_moveLetters_48 rfl ?_
        refine g_iload_n (pc := 49) (pl := 4) X dX4_moveLetters_49 rfl ?_
        refine g_iload_n (pc := 50) (pl := 5) X dX4_moveLetters_50 rfl ?_
        obtain ⟨hRO, -⟩ := id hL
        refine gVv (pc := 51) (n2 := 0) (k2 := 0) X cs_X4_moveLetters_97 (c_X6_shift (zl K) D base (q + 3) 60 (g 0) (LT g) a b p (by omega) (by omega)) rfl hRO (by omega) hL rfl ⟨Nat.le_of_ble_eq_true rfl, Nat.le_of_ble_eq_true rfl⟩ dX4_moveLetters_51 (Nat.le_of_ble_eq_true rfl) rfl rfl (fun H1 hp51 hs51 => ?_)
        obtain ⟨hLn, hfa⟩ := hp51
        replace hO := hO.fr hfa (by omega)
        replace hS := hS.fr hfa (by omega)
        replace hW := hW.fr hfa (by omega)
        replace hN := hN.fr hfa (by omega)
        replace hQ := hQ.fr hfa (by omega)
        replace hL := hLn
        clear hLn
        refine g_aload_n (pc := 54) (pl := 2) X dX4_moveLetters_54 rfl ?_
        refine g_getf (pc := 55) X zF_X4_moveLetters_23 hO rfl dX4_moveLetters_55 ?_
        refine g_iload_n (pc := 58) (pl := 3) X dX4_moveLetters_58 rfl ?_
        refine g_iload_n (pc := 59) (pl := 4) X dX4_moveLetters_59 rfl ?_
        refine g_iload_n (pc := 60) (pl := 5) X dX4_moveLetters_60 rfl ?_
        obtain ⟨hRO, -⟩ := id hW
        refine gVv (pc := 61) (n2 := 0) (k2 := 0) X cs_X4_moveLetters_97 (c_X6_shift (zl K) D base (q + 5) 60 (g 0) (OW g) a b p (by omega) (by omega)) rfl hRO (by omega) hW rfl ⟨Nat.le_of_ble_eq_true rfl, Nat.le_of_ble_eq_true rfl⟩ dX4_moveLetters_61 (Nat.le_of_ble_eq_true rfl) rfl rfl (fun H2 hp61 hs61 => ?_)
        obtain ⟨hWn, hfb⟩ := hp61
        replace hO := hO.fr hfb (by omega)
        replace hS := hS.fr hfb (by omega)
        replace hL := hL.fr hfb (by omega)
        replace hN := hN.fr hfb (by omega)
        replace hQ := hQ.fr hfb (by omega)
        replace hW := hWn
        clear hWn
        refine g_aload_n (pc := 64) (pl := 2) X dX4_moveLetters_64 rfl ?_
        have hI2 := hI.mv (a := a) (b := b) (p := p) (by omega) (by omega)
        obtain ⟨y1, yl, yw, yh⟩ := mvG_at (g := g) (a := a) (b := b) (p := p)
        have y0 : mvG g a b p 0 = g 0 := y1 0 (by omega) (by omega)
        have hPn : PageAt D q (mvG g a b p) H2 := ⟨by rw [y1 1 (by omega) (by omega)]; exact hO, hS.congr (fun i h0 h1 => (y1 _ (by omega) (by omega)).symm), by rw [y0]; exact hL.congr (fun i h0 h1 => (yl i h0 (by omega)).symm), by rw [y0]; exact hW.congr (fun i h0 h1 => (yw i h0 (by omega)).symm), hN.hi (y1 1 (by omega) (by omega)).symm (fun j h => (yh j h).symm), hQ, by rw [y1 1 (by omega) (by omega)]; omega, by rw [y1 1 (by omega) (by omega)]; omega⟩
        refine gVi (pc := 65) (n2 := 0) (k2 := 0) X cs_X4_moveLetters_101 (c_X4_countParted (zl K) D base q (mvG g a b p) hq hI2) rfl hO (by omega) hPn rfl ⟨Nat.le_of_ble_eq_true rfl, Nat.le_of_ble_eq_true rfl⟩ dX4_moveLetters_65 (Nat.le_of_ble_eq_true rfl) rfl rfl (fun v65 H3 hp65 hs65 => ?_)
        obtain ⟨rfl, hPx, hfc⟩ := hp65
        refine g_iret (pc := 68) X R hH dX4_moveLetters_68 ?_
        have hm : mverr g a b p = 0 := by unfold mverr; rw [if_neg (by omega), if_neg (by omega)]
        exact ⟨by unfold mvR; rw [hm, if_neg (by omega)], by rw [show mvS g a b p = mvG g a b p from if_neg (by omega)]; exact hPx, (Fr.trans (hfa.wide (by omega) (by omega)) (Fr.trans (hfb.wide (by omega) (by omega)) (hfc.wide (by omega) (by omega))))⟩
      · skip
        refine g_bipush (pc := 41) X dX4_moveLetters_41 (by decide +kernel) ?_
        refine g_iret (pc := 43) X R hH dX4_moveLetters_43 ?_
        have hm : mverr g a b p = -2 := by unfold mverr; rw [if_neg (by omega), if_pos (by omega)]
        exact ⟨by unfold mvR; rw [hm, if_pos (by omega)], by rw [show mvS g a b p = g from if_pos (by omega)]; exact hPg, Fr.refl _ _⟩
  · skip
    refine g_iload (pc := 13) (pl := 0) X dX4_moveLetters_13 rfl ?_
    refine g_iret (pc := 15) X R hH dX4_moveLetters_15 ?_
    have hm : mverr g a b p = perr g a b := if_pos (by omega)
    exact ⟨by unfold mvR; rw [hm, if_pos (by omega)], by rw [show mvS g a b p = g from if_pos (by omega)]; exact hPg, Fr.refl _ _⟩

abbrev rm_X4_anchor : Room := { frames := 3, cells := 0, slots := 0, locals := 70 }
theorem cs_X4_anchor_51 : zCV RX4 wsX4_anchor 51 4 yX4_find wsX4_find cX4_find 2 (some (.object "AnchoredNotes$Note")) rm_X4_anchor rm_X4_find 1 := ⟨_, _, gX4_anchor_X4_find, rfl, ⟨by decide +kernel, by decide +kernel, by decide +kernel⟩, ⟨Nat.le_of_ble_eq_true rfl, Nat.le_of_ble_eq_true rfl⟩, rfl, rfl⟩
theorem zF_X4_anchor_20 : zF RX4 wsX4_anchor 4 1 20 := ⟨RX4, TX4, 6, rfl, by decide +kernel, by decide, by decide +kernel⟩
theorem zF_X4_anchor_14 : zF RX4 wsX4_anchor 4 0 14 := ⟨RX4, TX4, 6, rfl, by decide +kernel, by decide, by decide +kernel⟩
theorem cs_X4_anchor_69 : zCV RX4 wsX4_anchor 69 6 yX6_item wsX6_item cX6_item 2 (some .int) rm_X4_anchor rm_X6_item 1 := ⟨_, _, gX4_anchor_X6_item, rfl, ⟨by decide +kernel, by decide +kernel, by decide +kernel⟩, ⟨Nat.le_of_ble_eq_true rfl, Nat.le_of_ble_eq_true rfl⟩, rfl, rfl⟩
theorem cs_X4_anchor_108 : zCV RX4 wsX4_anchor 108 2 yX2_remember wsX2_remember cX2_remember 5 none rm_X4_anchor rm_X2_remember 4 := ⟨_, _, gX4_anchor_X2_remember, rfl, ⟨by decide +kernel, by decide +kernel, by decide +kernel⟩, ⟨Nat.le_of_ble_eq_true rfl, Nat.le_of_ble_eq_true rfl⟩, rfl, rfl⟩
theorem zF_X4_anchor_23 : zF RX4 wsX4_anchor 4 2 23 := ⟨RX4, TX4, 6, rfl, by decide +kernel, by decide, by decide +kernel⟩
theorem zF_X4_anchor_76 : zF RX4 wsX4_anchor 6 1 76 := ⟨RX6, TX6, 2, rfl, by decide +kernel, by decide, by decide +kernel⟩
theorem cs_X4_anchor_72 : zCV RX4 wsX4_anchor 72 6 yX6_replace wsX6_replace cX6_replace 3 none rm_X4_anchor rm_X6_replace 2 := ⟨_, _, gX4_anchor_X6_replace, rfl, ⟨by decide +kernel, by decide +kernel, by decide +kernel⟩, ⟨Nat.le_of_ble_eq_true rfl, Nat.le_of_ble_eq_true rfl⟩, rfl, rfl⟩
set_option maxRecDepth 100000 in
theorem c_X4_anchor (l : Launch) (D : zD) (base : Nat) (q : Nat) (g : Int → Int) (i a b : Int) (hq : base ≤ q) (hi : 0 ≤ i ∧ i < g 1 ∧ g 1 ≤ 16) (hab : 0 ≤ a ∧ a ≤ b ∧ b < g 0 ∧ g 0 ≤ 60) (hg2 : 0 ≤ g 2 ∧ g 2 ≤ 8) (how : ∀ j : Int, 0 ≤ j → j < g 0 → 0 ≤ OW g j ∧ OW g j < 65536) (hoth : ∀ k : Int, 0 ≤ k → k < g 1 → ¬ k = i → g (125 + 80 * k) = -6 → g (126 + 80 * k) ≤ 60 ∧ g (187 + 80 * k) ≤ 8 ∧ g (196 + 80 * k) ≤ 8) : Ct l yX4_anchor wsX4_anchor rm_X4_anchor D base [.ref q, .int (J i), .int (J a), .int (J b)] (fun H => PgO D q (g 1) H ∧ RowAt D (q + 1) 3 3 (fun i => g (2 + i)) H ∧ RowAt D (q + 3) 60 (g 0) (LT g) H ∧ RowAt D (q + 5) 60 (g 0) (OW g) H ∧ (∃ pi : Int → Nat, Ra D (q + 7) 2 16 (fun i => some (q + 9 + 7 * pi i)) H ∧ PgI pi ∧ NtsAt D q g pi (fun j => j < g 1 ∧ ¬ j = i) H) ∧ PgP D q H) (PV (fun H H1 => PageAt D q (anG g i a b) H1 ∧ Fr (Iv q (q + 121)) 0 H H1)) := by
  refine Ct.of (own := RX4) (cc := cX4_anchor) (maxL := 6) (by decide +kernel) rfl (Nat.le_of_ble_eq_true rfl) rfl ?_
  intro K H X R hH hnm hP
  show G K 0 0 H 0 [(0, .ref q), (1, .int (J i)), (2, .int (J a)), (3, .int (J b))] []
  obtain ⟨hO, hS, hL, hW, ⟨pi, hRa, hpi, hNt⟩, hQ⟩ := hP
  have hpb := hpi.1 i hi.1 (by omega)
  obtain ⟨t, wl, al, bl, w, na, nb, hNo, hrt, -⟩ := hNt i hi.1 (by omega)
  obtain ⟨hNO, -⟩ := id hNo
  refine g_aload_n (pc := 0) (pl := 0) X dX4_anchor_0 rfl ?_
  refine g_iload_n (pc := 1) (pl := 1) X dX4_anchor_1 rfl ?_
  refine gVr (pc := 2) (n2 := 0) (k2 := 0) X cs_X4_anchor_51 (c_X4_find (zl K) D base q (g 1) i pi (by omega) (by omega) (by omega)) rfl hO (by omega) ⟨hO, hRa⟩ rfl ⟨Nat.le_of_ble_eq_true rfl, Nat.le_of_ble_eq_true rfl⟩ dX4_anchor_2 (Nat.le_of_ble_eq_true rfl) rfl rfl (fun v2 H1 hp2 hs2 => ?_)
  obtain ⟨rfl, rfl⟩ := hp2
  rw [fnd_in (q := q) (pi := pi) (k := (g 1)) (i := i) (by omega)]
  refine g_astore (pc := 5) (lv' := [(4, _), (0, _), (1, _), (2, _), (3, _)]) X dX4_anchor_5 (by decide) rfl ?_
  refine g_aload (pc := 7) (pl := 0) X dX4_anchor_7 rfl ?_
  refine g_ifnonnull (pc := 9) X 13 dX4_anchor_9 (by decide) ?_
  refine g_aload (pc := 13) (pl := 0) X dX4_anchor_13 rfl ?_
  refine g_aload_n (pc := 15) (pl := 1) X dX4_anchor_15 rfl ?_
  refine g_getf (pc := 16) X zF_X4_anchor_20 hO rfl dX4_anchor_16 ?_
  refine g_iload_n (pc := 19) (pl := 3) X dX4_anchor_19 rfl ?_
  refine g_iload_n (pc := 20) (pl := 4) X dX4_anchor_20 rfl ?_
  refine g_aload_n (pc := 21) (pl := 1) X dX4_anchor_21 rfl ?_
  refine g_getf (pc := 22) X zF_X4_anchor_14 hO rfl dX4_anchor_22 ?_
  refine g_iconst (pc := 25) X dX4_anchor_25 ?_
  obtain ⟨hRO, -⟩ := id hS
  refine gVi (pc := 26) (n2 := 0) (k2 := 0) X cs_X4_anchor_69 (c_X6_item (zl K) D base (q + 1) 3 3 (fun i => g (2 + i)) 0 (by omega)) rfl hRO (by omega) hS rfl ⟨Nat.le_of_ble_eq_true rfl, Nat.le_of_ble_eq_true rfl⟩ dX4_anchor_26 (Nat.le_of_ble_eq_true rfl) rfl rfl (fun v26 H1 hp26 hs26 => ?_)
  obtain ⟨rfl, rfl⟩ := hp26
  rw [show itm 3 (fun i => g (2 + i)) 0 = g 2 from rfl]
  refine gVv (pc := 29) (n2 := 0) (k2 := 0) X cs_X4_anchor_108 (c_X2_remember (zl K) D base (q + 9 + 7 * pi i) t wl al bl w na nb (q + 3) (g 0) (LT g) a b (g 2) (by omega) (by omega) (by omega) (by omega) (by omega)) rfl hNO (by omega) ⟨hNo, hL⟩ rfl ⟨Nat.le_of_ble_eq_true rfl, Nat.le_of_ble_eq_true rfl⟩ dX4_anchor_29 (Nat.le_of_ble_eq_true rfl) rfl rfl (fun H1 hp29 hs29 => ?_)
  obtain ⟨wl2, al2, bl2, hNo2, k1, k2, k3, k4, k5, k6, k7, k8, k9, hfa⟩ := hp29
  replace hO := hO.fr hfa (by omega)
  replace hS := hS.fr hfa (by omega)
  replace hL := hL.fr hfa (by omega)
  replace hW := hW.fr hfa (by omega)
  replace hRa := hRa.fr hfa (by omega)
  replace hQ := hQ.fr hfa (by omega)
  replace hNt : NtsAt D q (anG g i a b) pi (fun j => j < g 1) H1 := hNt.one hpi (by omega) hfa ⟨-6, wl2, al2, bl2, _, _, _, hNo2, by omega, fun _ => NoteIs.an (by omega) hab hg2 k1 ⟨k2, k3, k4, k5⟩ ⟨k6, k7, k8, k9⟩⟩ (fun k h0 h1 hne hk => ⟨⟨hk, hne⟩, anG_neq (by omega) h0 hne (hoth k h0 hk hne)⟩)
  clear hNO hNo hNo2
  refine g_iload_n (pc := 32) (pl := 3) X dX4_anchor_32 rfl ?_
  refine g_istore (pc := 33) (lv' := [(5, _), (4, _), (0, _), (1, _), (2, _), (3, _)]) X dX4_anchor_33 (by decide) rfl ?_
  have hL35 : ∀ (fu : Nat) (x : Int) (Hx : Heap), (b + 1 - x).toNat < fu → (a ≤ x ∧ x ≤ b + 1) → (PgO D q (g 1) Hx) → (RowAt D (q + 1) 3 3 (fun i => g (2 + i)) Hx) → (RowAt D (q + 3) 60 (g 0) (LT g) Hx) → (RowAt D (q + 5) 60 (g 0) (fun j => if a ≤ j ∧ j < x then addB (OW g j) i else OW g j) Hx) → (Ra D (q + 7) 2 16 (fun i => some (q + 9 + 7 * pi i)) Hx) → (NtsAt D q (anG g i a b) pi (fun j => j < g 1) Hx) → (PgP D q Hx) → (Fr (Iv q (q + 121)) 0 H Hx) → G K 0 0 Hx 35 [(0, .ref q), (1, .int (J i)), (2, .int (J a)), (3, .int (J b)), (5, .int (J x))] [] := by
    intro fu
    induction fu with
    | zero => intro x Hx hm; exact absurd hm (Nat.not_lt_zero _)
    | succ fu ih35 =>
      intro x Hx hm h1 hO hS hL hW hRa hNt hQ h3
      refine g_iload (pc := 35) (pl := 4) X dX4_anchor_35 rfl ?_
      refine g_iload_n (pc := 37) (pl := 3) X dX4_anchor_37 rfl ?_
      refine g_icmp_gt (pc := 38) X 81 dX4_anchor_38 (by decide) (by omega) (by omega) (fun c38 => ?_) (fun c38 => ?_)
      · skip
        refine g_vret (pc := 81) X R hH dX4_anchor_81 ?_
        refine ⟨⟨?_, ?_, ?_, ?_, ?_, hQ, ?_, ?_⟩, h3⟩
        · rw [anG_lo (by omega) (by omega)]; exact hO
        · exact hS.congr (fun j h0 h1 => (anG_lo (j := 2 + j) (by omega) (by omega)).symm)
        · rw [anG_lo (by omega) (by omega)]; exact hL.congr (fun j h0 h1 => (anG_lo (j := 5 + j) (by omega) (by omega)).symm)
        · rw [anG_lo (by omega) (by omega)]; exact hW.congr (fun j h0 h1 => by show _ = anG g i a b (65 + j); rw [anG_own h0 (by omega)]; by_cases c : a ≤ j ∧ j ≤ b; (rw [if_pos c, if_pos (by omega)]); (rw [if_neg c, if_neg (by omega)]))
        · exact PgN.close hRa hpi (fun k h0 h1 => (hNt k h0 h1).weak (fun z => by rw [anG_lo (by omega) (by omega)] at z; exact z))
        · rw [anG_lo (by omega) (by omega)]; omega
        · rw [anG_lo (by omega) (by omega)]; omega
      · skip
        refine g_iload (pc := 41) (pl := 4) X dX4_anchor_41 rfl ?_
        refine g_aload_n (pc := 43) (pl := 0) X dX4_anchor_43 rfl ?_
        refine g_getf (pc := 44) X zF_X4_anchor_23 hO rfl dX4_anchor_44 ?_
        obtain ⟨hRO, -⟩ := id hW
        refine g_getf (pc := 47) X zF_X4_anchor_76 hRO rfl dX4_anchor_47 ?_
        refine g_icmp_ge (pc := 50) X 81 dX4_anchor_50 (by decide) (by omega) (by omega) (fun c50 => ?_) (fun c50 => ?_)
        · skip
          omega
        · skip
          refine g_aload_n (pc := 53) (pl := 0) X dX4_anchor_53 rfl ?_
          refine g_getf (pc := 54) X zF_X4_anchor_23 hO rfl dX4_anchor_54 ?_
          refine g_iload (pc := 57) (pl := 4) X dX4_anchor_57 rfl ?_
          refine g_aload_n (pc := 59) (pl := 0) X dX4_anchor_59 rfl ?_
          refine g_getf (pc := 60) X zF_X4_anchor_23 hO rfl dX4_anchor_60 ?_
          refine g_iload (pc := 63) (pl := 4) X dX4_anchor_63 rfl ?_
          obtain ⟨hRO, -⟩ := id hW
          refine gVi (pc := 65) (n2 := 0) (k2 := 0) X cs_X4_anchor_69 (c_X6_item (zl K) D base (q + 5) 60 (g 0) (fun j => if a ≤ j ∧ j < x then addB (OW g j) i else OW g j) x (by omega)) rfl hRO (by omega) hW rfl ⟨Nat.le_of_ble_eq_true rfl, Nat.le_of_ble_eq_true rfl⟩ dX4_anchor_65 (Nat.le_of_ble_eq_true rfl) rfl rfl (fun v65 H2 hp65 hs65 => ?_)
          obtain ⟨rfl, rfl⟩ := hp65
          rw [show itm (g 0) (fun j => if a ≤ j ∧ j < x then addB (OW g j) i else OW g j) x = OW g x from by unfold itm; rw [if_pos (by omega)]; exact if_neg (by omega)]
          refine g_iconst (pc := 68) X dX4_anchor_68 ?_
          refine g_iload_n (pc := 69) (pl := 1) X dX4_anchor_69 rfl ?_
          refine g_ishl (pc := 70) (z := J ((2 ^ i.toNat : Nat) : Int)) X dX4_anchor_70 ((J_shl (by omega) (by omega)).trans (by rw [show (1 : Int).toNat = 1 from rfl, Nat.one_mul])) ?_
          have hox := how x (by omega) (by omega)
          refine g_ior (pc := 71) (z := J (addB (OW g x) i)) X dX4_anchor_71 ((J_or (by omega) (by first | exact Int.natCast_nonneg _ | exact Int.ofNat_nonneg _)).trans (by unfold addB; rw [Int.toNat_natCast])) ?_
          obtain ⟨hRO, -⟩ := id hW
          refine gVv (pc := 72) (n2 := 0) (k2 := 0) X cs_X4_anchor_72 (c_X6_replace (zl K) D base (q + 5) 60 (g 0) (fun j => if a ≤ j ∧ j < x then addB (OW g j) i else OW g j) x (addB (OW g x) i) (by omega) (by omega)) rfl hRO (by omega) hW rfl ⟨Nat.le_of_ble_eq_true rfl, Nat.le_of_ble_eq_true rfl⟩ dX4_anchor_72 (Nat.le_of_ble_eq_true rfl) rfl rfl (fun H2 hp72 hs72 => ?_)
          obtain ⟨hWn, hfb⟩ := hp72
          replace hO := hO.fr hfb (by omega)
          replace hS := hS.fr hfb (by omega)
          replace hL := hL.fr hfb (by omega)
          replace hRa := hRa.fr hfb (by omega)
          replace hQ := hQ.fr hfb (by omega)
          replace hNt := hNt.fr hfb ⟨hpi, by omega⟩
          replace hW := hWn
          clear hWn
          refine g_iinc (pc := 75) (pl := 4) (x := x) (lv' := [(5, _), (0, _), (1, _), (2, _), (3, _)]) X dX4_anchor_75 rfl (by decide) rfl ?_
          refine g_goto (pc := 78) X 35 dX4_anchor_78 (by decide) ?_
          refine G.pick [1, 2, 3, 4, 0] (lv' := [(0, _), (1, _), (2, _), (3, _), (5, _)]) rfl ?_
          exact ih35 (x + 1) H2 (by omega) (by omega) hO hS hL (hW.congr (fun j h0 h1 => by simp only [up]; by_cases c : j = x; (rw [if_pos c, if_pos (by omega), c]); (rw [if_neg c]; by_cases c2 : a ≤ j ∧ j < x; (rw [if_pos c2, if_pos (by omega)]); (rw [if_neg c2, if_neg (by omega)])))) hRa hNt hQ (Fr.trans (h3.wide (by omega) (by omega)) (hfb.wide (by omega) (by omega)))
  refine G.pick [2, 3, 4, 5, 0] (lv' := [(0, _), (1, _), (2, _), (3, _), (5, _)]) rfl ?_
  exact hL35 _ a H1 (Nat.lt_succ_self _) (by omega) hO hS hL (hW.congr (fun j h0 h1 => by show _ = (if a ≤ j ∧ j < a then _ else _); rw [if_neg (by omega)])) hRa hNt hQ (hfa.wide (by omega) (by omega))


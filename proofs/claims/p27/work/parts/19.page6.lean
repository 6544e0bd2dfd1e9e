abbrev rm_X4_reclaimNote : Room := { frames := 4, cells := 0, slots := 0, locals := 95 }
theorem cs_X4_reclaimNote_51 : zCV RX4 wsX4_reclaimNote 51 4 yX4_find wsX4_find cX4_find 2 (some (.object "AnchoredNotes$Note")) rm_X4_reclaimNote rm_X4_find 1 := ⟨_, _, gX4_reclaimNote_X4_find, rfl, ⟨by decide +kernel, by decide +kernel, by decide +kernel⟩, ⟨Nat.le_of_ble_eq_true rfl, Nat.le_of_ble_eq_true rfl⟩, rfl, rfl⟩
theorem cs_X4_reclaimNote_128 : zCV RX4 wsX4_reclaimNote 128 4 yX4_state wsX4_state cX4_state 3 (some .int) rm_X4_reclaimNote rm_X4_state 1 := ⟨_, _, gX4_reclaimNote_X4_state, rfl, ⟨by decide +kernel, by decide +kernel, by decide +kernel⟩, ⟨Nat.le_of_ble_eq_true rfl, Nat.le_of_ble_eq_true rfl⟩, rfl, rfl⟩
theorem zF_X4_reclaimNote_20 : zF RX4 wsX4_reclaimNote 4 1 20 := ⟨RX4, TX4, 6, rfl, by decide +kernel, by decide, by decide +kernel⟩
theorem cs_X4_reclaimNote_131 : zCV RX4 wsX4_reclaimNote 131 7 yX7_look wsX7_look cX7_look 6 none rm_X4_reclaimNote rm_X7_look 2 := ⟨_, _, gX4_reclaimNote_X7_look, rfl, ⟨by decide +kernel, by decide +kernel, by decide +kernel⟩, ⟨Nat.le_of_ble_eq_true rfl, Nat.le_of_ble_eq_true rfl⟩, rfl, rfl⟩
theorem zF_X4_reclaimNote_137 : zF RX4 wsX4_reclaimNote 7 2 137 := ⟨RX7, TX7, 3, rfl, by decide +kernel, by decide, by decide +kernel⟩
theorem zF_X4_reclaimNote_140 : zF RX4 wsX4_reclaimNote 7 0 140 := ⟨RX7, TX7, 3, rfl, by decide +kernel, by decide, by decide +kernel⟩
theorem zF_X4_reclaimNote_143 : zF RX4 wsX4_reclaimNote 2 1 143 := ⟨RX2, TX2, 4, rfl, by decide +kernel, by decide, by decide +kernel⟩
theorem zF_X4_reclaimNote_76 : zF RX4 wsX4_reclaimNote 6 1 76 := ⟨RX6, TX6, 2, rfl, by decide +kernel, by decide, by decide +kernel⟩
theorem cs_X4_reclaimNote_105 : zCV RX4 wsX4_reclaimNote 105 4 yX4_anchor wsX4_anchor cX4_anchor 6 none rm_X4_reclaimNote rm_X4_anchor 3 := ⟨_, _, gX4_reclaimNote_X4_anchor, rfl, ⟨by decide +kernel, by decide +kernel, by decide +kernel⟩, ⟨Nat.le_of_ble_eq_true rfl, Nat.le_of_ble_eq_true rfl⟩, rfl, rfl⟩
set_option maxRecDepth 100000 in
theorem c_X4_reclaimNote (l : Launch) (D : zD) (base : Nat) (q s : Nat) (g : Int → Int) (n p1 p2 p3 : Int) (hq : base ≤ q) (hI : PInv g) (hn : rg n) (hs : base ≤ s) (hqs : s + 1 ≤ q ∨ q + 121 ≤ s) : Ct l yX4_reclaimNote wsX4_reclaimNote rm_X4_reclaimNote D base [.ref q, .int (J n), .ref s] (fun H => PageAt D q g H ∧ Ob D s 7 [.int (J p1), .int (J p2), .int (J p3)] H) (PI (fun H v H1 => rcR g n = v ∧ PageAt D q (rcG g n) H1 ∧ (∃ p1 p2 p3 : Int, Ob D s 7 [.int (J p1), .int (J p2), .int (J p3)] H1) ∧ ∃ Ha Hb : Heap, Fr (Iv q (q + 121)) 0 H Ha ∧ Fr (Iv s (s + 1)) 0 Ha Hb ∧ Fr (Iv q (q + 121)) 0 Hb H1)) := by
  refine Ct.of (own := RX4) (cc := cX4_reclaimNote) (maxL := 4) (by decide +kernel) rfl (Nat.le_of_ble_eq_true rfl) rfl ?_
  intro K H X R hH hnm hP
  show G K 0 0 H 0 [(0, .ref q), (1, .int (J n)), (2, .ref s)] []
  obtain ⟨hP, hSO⟩ := hP
  have hPg := hP
  obtain ⟨hO, hS, hL, hW, hN, hQ, hk0, hk1⟩ := hP
  have hnum := hI.nums
  obtain ⟨pi, hRa, hpi, hNt⟩ := hN.op
  refine g_aload_n (pc := 0) (pl := 0) X dX4_reclaimNote_0 rfl ?_
  refine g_iload_n (pc := 1) (pl := 1) X dX4_reclaimNote_1 rfl ?_
  by_cases hc : 0 ≤ n ∧ n < g 1
  · skip
    refine gVr (pc := 2) (n2 := 0) (k2 := 0) X cs_X4_reclaimNote_51 (c_X4_find (zl K) D base q (g 1) n pi (by omega) (by omega) (by omega)) rfl hO (by omega) ⟨hO, hRa⟩ rfl ⟨Nat.le_of_ble_eq_true rfl, Nat.le_of_ble_eq_true rfl⟩ dX4_reclaimNote_2 (Nat.le_of_ble_eq_true rfl) rfl rfl (fun v2 H1 hp2 hs2 => ?_)
    obtain ⟨rfl, rfl⟩ := hp2
    rw [fnd_in (q := q) (pi := pi) (k := (g 1)) (i := n) (by omega)]
    refine g_astore_n (pc := 5) (lv' := [(3, _), (0, _), (1, _), (2, _)]) X dX4_reclaimNote_5 (by decide) rfl ?_
    refine g_aload_n (pc := 6) (pl := 0) X dX4_reclaimNote_6 rfl ?_
    refine g_ifnonnull (pc := 7) X 12 dX4_reclaimNote_7 (by decide) ?_
    refine g_aload_n (pc := 12) (pl := 1) X dX4_reclaimNote_12 rfl ?_
    refine g_iload_n (pc := 13) (pl := 2) X dX4_reclaimNote_13 rfl ?_
    refine gVi (pc := 14) (n2 := 0) (k2 := 0) X cs_X4_reclaimNote_128 (c_X4_state (zl K) D base q g n hq hI hc) rfl hO (by omega) hPg rfl ⟨Nat.le_of_ble_eq_true rfl, Nat.le_of_ble_eq_true rfl⟩ dX4_reclaimNote_14 (Nat.le_of_ble_eq_true rfl) rfl rfl (fun v14 H1 hp14 hs14 => ?_)
    obtain ⟨rfl, hX2, hfa⟩ := hp14
    clear hPg
    replace hO := hO.fr hfa (by omega)
    replace hSO := hSO.fr hfa (by omega)
    replace hS := hS.fr hfa (by omega)
    replace hL := hL.fr hfa (by omega)
    replace hW := hW.fr hfa (by omega)
    replace hRa := hRa.fr hfa (by omega)
    replace hNt := hNt.fr hfa ⟨hpi, by omega⟩
    replace hQ := hX2.2.2.2.2.2.1
    refine g_iconst (pc := 17) X dX4_reclaimNote_17 ?_
    refine g_icmp_eq (pc := 18) X 24 dX4_reclaimNote_18 (by decide) (by simp only [stt]; (repeat' split) <;> omega) (by omega) (fun c18 => ?_) (fun c18 => ?_)
    · skip
      refine g_aload_n (pc := 24) (pl := 3) X dX4_reclaimNote_24 rfl ?_
      refine g_aload_n (pc := 25) (pl := 1) X dX4_reclaimNote_25 rfl ?_
      refine g_getf (pc := 26) X zF_X4_reclaimNote_20 hO rfl dX4_reclaimNote_26 ?_
      refine g_aload_n (pc := 29) (pl := 0) X dX4_reclaimNote_29 rfl ?_
      have hst : tgt g n = -6 := by unfold stt at c18; split at c18; (omega); (next z => exact Decidable.not_not.mp z)
      obtain ⟨t, wl, al, bl, w, na, nb, hNo, hrt, hni⟩ := hNt n (by omega) (by omega)
      have hte : t = tgt g n := (hni (by omega)).1
      have hpb := hpi.1 n (by omega) (by omega)
      have hnv := hI.nt (i := n) (by omega) (by omega) hst
      have hni2 := hni (by omega)
      rw [show t = -6 by omega] at hni2
      obtain ⟨w1, w2, w3, w4, w5, w6⟩ := hni2.2 rfl
      have hvw : ∀ j : Int, 0 ≤ j → j < wl → 0 ≤ w j ∧ w j ≤ 25 := fun j a b => by rw [w4 j a b]; exact hnv.2.2.2.2.2.2.1 j a (by omega)
      have hva : ∀ j : Int, 0 ≤ j → j < al → 0 ≤ na j ∧ na j ≤ 25 := fun j a b => by rw [w5 j a b]; exact hnv.2.2.2.2.2.2.2.1 j a (by omega)
      have hvb : ∀ j : Int, 0 ≤ j → j < bl → 0 ≤ nb j ∧ nb j ≤ 25 := fun j a b => by rw [w6 j a b]; exact hnv.2.2.2.2.2.2.2.2 j a (by omega)
      obtain ⟨eo, el⟩ := okS_note hni2
      have hbb := bst_bd hI (i := n) (by omega) (by omega) hst
      obtain ⟨-, hNW, -⟩ := id hNo
      refine gVv (pc := 30) (n2 := 0) (k2 := 0) X cs_X4_reclaimNote_131 (c_X7_look (zl K) D base s (q + 3) (q + 9 + 7 * pi n) p1 p2 p3 (g 0) (LT g) t wl al bl w na nb (by omega) (by omega) (by omega) (by omega) (by omega) (by omega) hI.let hvw hva hvb) rfl hSO (by omega) ⟨hSO, hL, hNo⟩ rfl ⟨Nat.le_of_ble_eq_true rfl, Nat.le_of_ble_eq_true rfl⟩ dX4_reclaimNote_30 (Nat.le_of_ble_eq_true rfl) rfl rfl (fun H2 hp30 hs30 => ?_)
      obtain ⟨hSOn, hfs⟩ := hp30
      rw [eo, el] at hSOn
      replace hO := hO.fr hfs (by omega)
      replace hS := hS.fr hfs (by omega)
      replace hL := hL.fr hfs (by omega)
      replace hW := hW.fr hfs (by omega)
      replace hQ := hQ.fr hfs (by omega)
      replace hRa := hRa.fr hfs (by omega)
      replace hNt := hNt.fr hfs ⟨hpi, by omega⟩
      replace hSO : Ob D s 7 [.int (J (bstN g n).1), .int (J (bstN g n).2.1), .int (J (bstN g n).2.2)] H2 := hSOn
      clear hSOn
      refine g_aload_n (pc := 33) (pl := 3) X dX4_reclaimNote_33 rfl ?_
      refine g_getf (pc := 34) X zF_X4_reclaimNote_137 hSO rfl dX4_reclaimNote_34 ?_
      refine g_if_ne (pc := 37) X 43 dX4_reclaimNote_37 (by decide) (by omega) (fun c37 => ?_) (fun c37 => ?_)
      · skip
        refine g_aload_n (pc := 43) (pl := 1) X dX4_reclaimNote_43 rfl ?_
        refine g_iload_n (pc := 44) (pl := 2) X dX4_reclaimNote_44 rfl ?_
        refine g_aload_n (pc := 45) (pl := 3) X dX4_reclaimNote_45 rfl ?_
        refine g_getf (pc := 46) X zF_X4_reclaimNote_140 hSO rfl dX4_reclaimNote_46 ?_
        refine g_aload_n (pc := 49) (pl := 3) X dX4_reclaimNote_49 rfl ?_
        refine g_getf (pc := 50) X zF_X4_reclaimNote_140 hSO rfl dX4_reclaimNote_50 ?_
        refine g_aload_n (pc := 53) (pl := 0) X dX4_reclaimNote_53 rfl ?_
        have hNo2 := hNo.fr hfs (by omega)
        obtain ⟨hNO, ⟨hWO, -⟩, -⟩ := hNo2
        refine g_getf (pc := 54) X zF_X4_reclaimNote_143 hNO rfl dX4_reclaimNote_54 ?_
        refine g_getf (pc := 57) X zF_X4_reclaimNote_76 hWO rfl dX4_reclaimNote_57 ?_
        refine g_iadd (pc := 60) X dX4_reclaimNote_60 ?_
        refine g_iconst (pc := 61) X dX4_reclaimNote_61 ?_
        refine g_isub (pc := 62) X dX4_reclaimNote_62 ?_
        have hpre : PgO D q (g 1) H2 ∧ RowAt D (q + 1) 3 3 (fun i => g (2 + i)) H2 ∧ RowAt D (q + 3) 60 (g 0) (LT g) H2 ∧ RowAt D (q + 5) 60 (g 0) (OW g) H2 ∧ (∃ pi : Int → Nat, Ra D (q + 7) 2 16 (fun i => some (q + 9 + 7 * pi i)) H2 ∧ PgI pi ∧ NtsAt D q g pi (fun j => j < g 1 ∧ ¬ j = n) H2) ∧ PgP D q H2 := ⟨hO, hS, hL, hW, ⟨pi, hRa, hpi, fun k h0 h1 => (hNt k h0 h1).weak (fun z => z.1)⟩, hQ⟩
        rw [show (bstN g n).1 + wl - 1 = (bstN g n).1 + g (126 + 80 * n) - 1 by omega]
        refine gVv (pc := 63) (n2 := 0) (k2 := 0) X cs_X4_reclaimNote_105 (c_X4_anchor (zl K) D base q g n (bstN g n).1 ((bstN g n).1 + g (126 + 80 * n) - 1) hq (by omega) (by omega) (by omega) hI.own (fun k h0 h1 _ h3 => by have := hI.nt h0 h1 h3; omega)) rfl hO (by omega) hpre rfl ⟨Nat.le_of_ble_eq_true rfl, Nat.le_of_ble_eq_true rfl⟩ dX4_reclaimNote_63 (Nat.le_of_ble_eq_true rfl) rfl rfl (fun H3 hp63 hs63 => ?_)
        obtain ⟨hPn, hfb⟩ := hp63
        replace hSO := hSO.fr hfb (by omega)
        refine g_aload_n (pc := 66) (pl := 3) X dX4_reclaimNote_66 rfl ?_
        refine g_getf (pc := 67) X zF_X4_reclaimNote_140 hSO rfl dX4_reclaimNote_67 ?_
        refine g_iret (pc := 70) X R hH dX4_reclaimNote_70 ?_
        have hm : rcR g n = (bstN g n).1 := by unfold rcR; rw [if_neg (fun z => z hc), if_neg (fun z => z c18), if_neg c37]
        exact ⟨hm, by rw [show rcG g n = anG g n (bstN g n).1 ((bstN g n).1 + g (126 + 80 * n) - 1) from if_neg (by omega)]; exact hPn, ⟨_, _, _, hSO⟩, H1, H2, hfa.wide (by omega) (by omega), hfs, hfb⟩
      · skip
        refine g_bipush (pc := 40) X dX4_reclaimNote_40 (by decide +kernel) ?_
        refine g_iret (pc := 42) X R hH dX4_reclaimNote_42 ?_
        have hm : rcR g n = -5 := by unfold rcR; rw [if_neg (fun z => z hc), if_neg (fun z => z c18), if_pos c37]
        exact ⟨hm, by rw [show rcG g n = g from if_pos (by omega)]; exact hX2.fr hfs (by omega), ⟨_, _, _, hSO⟩, H1, H2, hfa.wide (by omega) (by omega), hfs, Fr.refl _ _⟩
    · skip
      refine g_bipush (pc := 21) X dX4_reclaimNote_21 (by decide +kernel) ?_
      refine g_iret (pc := 23) X R hH dX4_reclaimNote_23 ?_
      have hm : rcR g n = -5 := by unfold rcR; rw [if_neg (fun z => z hc), if_pos c18]
      exact ⟨hm, by rw [show rcG g n = g from if_pos (by omega)]; exact hX2, ⟨_, _, _, hSO⟩, H1, H1, hfa.wide (by omega) (by omega), Fr.refl _ _, Fr.refl _ _⟩
  · skip
    refine gVr (pc := 2) (n2 := 0) (k2 := 0) X cs_X4_reclaimNote_51 (c_X4_find (zl K) D base q (g 1) n pi (by omega) (by omega) (by omega)) rfl hO (by omega) ⟨hO, hRa⟩ rfl ⟨Nat.le_of_ble_eq_true rfl, Nat.le_of_ble_eq_true rfl⟩ dX4_reclaimNote_2 (Nat.le_of_ble_eq_true rfl) rfl rfl (fun v2 H1 hp2 hs2 => ?_)
    obtain ⟨rfl, rfl⟩ := hp2
    rw [fnd_out (q := q) (pi := pi) (k := (g 1)) (i := n) (by omega)]
    refine g_astore_nN (pc := 5) (lv' := [(3, _), (0, _), (1, _), (2, _)]) X dX4_reclaimNote_5 (by decide) rfl ?_
    refine g_aload_nN (pc := 6) (pl := 0) X dX4_reclaimNote_6 rfl ?_
    refine g_ifnonnullN (pc := 7) X dX4_reclaimNote_7 ?_
    refine g_iconst (pc := 10) X dX4_reclaimNote_10 ?_
    refine g_iret (pc := 11) X R hH dX4_reclaimNote_11 ?_
    have hm : rcR g n = -1 := if_pos hc
    exact ⟨hm, by rw [show rcG g n = g from if_pos (by omega)]; exact hPg, ⟨_, _, _, hSO⟩, H, H, Fr.refl _ _, Fr.refl _ _, Fr.refl _ _⟩

abbrev rm_X4_copyFrom : Room := { frames := 3, cells := 0, slots := 0, locals := 102 }
theorem zF_X4_copyFrom_14 : zF RX4 wsX4_copyFrom 4 0 14 := ⟨RX4, TX4, 6, rfl, by decide +kernel, by decide, by decide +kernel⟩
theorem cs_X4_copyFrom_43 : zCV RX4 wsX4_copyFrom 43 6 yX6_copyFrom wsX6_copyFrom cX6_copyFrom 2 none rm_X4_copyFrom rm_X6_copyFrom 1 := ⟨_, _, gX4_copyFrom_X6_copyFrom, rfl, ⟨by decide +kernel, by decide +kernel, by decide +kernel⟩, ⟨Nat.le_of_ble_eq_true rfl, Nat.le_of_ble_eq_true rfl⟩, rfl, rfl⟩
theorem zF_X4_copyFrom_20 : zF RX4 wsX4_copyFrom 4 1 20 := ⟨RX4, TX4, 6, rfl, by decide +kernel, by decide, by decide +kernel⟩
theorem zF_X4_copyFrom_23 : zF RX4 wsX4_copyFrom 4 2 23 := ⟨RX4, TX4, 6, rfl, by decide +kernel, by decide, by decide +kernel⟩
theorem zF_X4_copyFrom_47 : zF RX4 wsX4_copyFrom 4 4 47 := ⟨RX4, TX4, 6, rfl, by decide +kernel, by decide, by decide +kernel⟩
theorem zW_X4_copyFrom_47 : zW RX4 wsX4_copyFrom 4 4 47 false (tyX4 4) := ⟨RX4, TX4, 6, tyX4, rfl, by decide +kernel, by decide, by decide +kernel, tyX4_ok, nmX4, rfl, rfl, rfl⟩
theorem cs_X4_copyFrom_51 : zCV RX4 wsX4_copyFrom 51 4 yX4_find wsX4_find cX4_find 2 (some (.object "AnchoredNotes$Note")) rm_X4_copyFrom rm_X4_find 1 := ⟨_, _, gX4_copyFrom_X4_find, rfl, ⟨by decide +kernel, by decide +kernel, by decide +kernel⟩, ⟨Nat.le_of_ble_eq_true rfl, Nat.le_of_ble_eq_true rfl⟩, rfl, rfl⟩
theorem cs_X4_copyFrom_55 : zCV RX4 wsX4_copyFrom 55 2 yX2_copyFrom wsX2_copyFrom cX2_copyFrom 2 none rm_X4_copyFrom rm_X2_copyFrom 1 := ⟨_, _, gX4_copyFrom_X2_copyFrom, rfl, ⟨by decide +kernel, by decide +kernel, by decide +kernel⟩, ⟨Nat.le_of_ble_eq_true rfl, Nat.le_of_ble_eq_true rfl⟩, rfl, rfl⟩
set_option maxRecDepth 100000 in
theorem c_X4_copyFrom (l : Launch) (D : zD) (base : Nat) (q o : Nat) (g g2 : Int → Int) (hq : base ≤ q) (hqo : base ≤ o) (hd : q + 121 ≤ o ∨ o + 121 ≤ q) : Ct l yX4_copyFrom wsX4_copyFrom rm_X4_copyFrom D base [.ref q, .ref o] (fun H => PageAt D q g H ∧ PageAt D o g2 H) (PV (fun H H1 => PageAt D q g2 H1 ∧ Fr (Iv q (q + 121)) 0 H H1)) := by
  refine Ct.of (own := RX4) (cc := cX4_copyFrom) (maxL := 5) (by decide +kernel) rfl (Nat.le_of_ble_eq_true rfl) rfl ?_
  intro K H X R hH hnm hP
  show G K 0 0 H 0 [(0, .ref q), (1, .ref o)] []
  obtain ⟨hP, hX⟩ := hP
  obtain ⟨hO, hS, hL, hW, hN, hQ, hk0, hk1⟩ := hP
  obtain ⟨hOo, hSo, hLo, hWo, -, -, hj0, hj1⟩ := id hX
  obtain ⟨pi, hRa, hpi, hNt⟩ := hN.op
  have hbl := hLo.bd
  refine g_aload_n (pc := 0) (pl := 0) X dX4_copyFrom_0 rfl ?_
  refine g_getf (pc := 1) X zF_X4_copyFrom_14 hO rfl dX4_copyFrom_1 ?_
  refine g_aload_n (pc := 4) (pl := 1) X dX4_copyFrom_4 rfl ?_
  refine g_getf (pc := 5) X zF_X4_copyFrom_14 hOo rfl dX4_copyFrom_5 ?_
  obtain ⟨hRO, -⟩ := id hS
  refine gVv (pc := 8) (n2 := 0) (k2 := 0) X cs_X4_copyFrom_43 (c_X6_copyFrom (zl K) D base (q + 1) 3 (o + 1) 3 3 3 (fun i => g (2 + i)) (fun i => g2 (2 + i)) (by omega) (by omega) (by omega)) rfl hRO (by omega) ⟨hS, hSo⟩ rfl ⟨Nat.le_of_ble_eq_true rfl, Nat.le_of_ble_eq_true rfl⟩ dX4_copyFrom_8 (Nat.le_of_ble_eq_true rfl) rfl rfl (fun H1 hp8 hs8 => ?_)
  obtain ⟨hSn, hfa⟩ := hp8
  replace hO := hO.fr hfa (by omega)
  replace hOo := hOo.fr hfa (by omega)
  replace hL := hL.fr hfa (by omega)
  replace hW := hW.fr hfa (by omega)
  replace hQ := hQ.fr hfa (by omega)
  replace hRa := hRa.fr hfa (by omega)
  replace hNt := hNt.fr hfa ⟨hpi, by omega⟩
  replace hX := hX.fr hfa (by omega)
  replace hSo := hSo.fr hfa (by omega)
  replace hLo := hLo.fr hfa (by omega)
  replace hWo := hWo.fr hfa (by omega)
  replace hS := hSn
  clear hSn
  refine g_aload_n (pc := 11) (pl := 0) X dX4_copyFrom_11 rfl ?_
  refine g_getf (pc := 12) X zF_X4_copyFrom_20 hO rfl dX4_copyFrom_12 ?_
  refine g_aload_n (pc := 15) (pl := 1) X dX4_copyFrom_15 rfl ?_
  refine g_getf (pc := 16) X zF_X4_copyFrom_20 hOo rfl dX4_copyFrom_16 ?_
  obtain ⟨hRO, -⟩ := id hL
  refine gVv (pc := 19) (n2 := 0) (k2 := 0) X cs_X4_copyFrom_43 (c_X6_copyFrom (zl K) D base (q + 3) 60 (o + 3) 60 (g 0) (g2 0) (LT g) (LT g2) (by omega) (by omega) (by omega)) rfl hRO (by omega) ⟨hL, hLo⟩ rfl ⟨Nat.le_of_ble_eq_true rfl, Nat.le_of_ble_eq_true rfl⟩ dX4_copyFrom_19 (Nat.le_of_ble_eq_true rfl) rfl rfl (fun H2 hp19 hs19 => ?_)
  obtain ⟨hLn, hfb⟩ := hp19
  replace hO := hO.fr hfb (by omega)
  replace hOo := hOo.fr hfb (by omega)
  replace hS := hS.fr hfb (by omega)
  replace hW := hW.fr hfb (by omega)
  replace hQ := hQ.fr hfb (by omega)
  replace hRa := hRa.fr hfb (by omega)
  replace hNt := hNt.fr hfb ⟨hpi, by omega⟩
  replace hX := hX.fr hfb (by omega)
  replace hSo := hSo.fr hfb (by omega)
  replace hLo := hLo.fr hfb (by omega)
  replace hWo := hWo.fr hfb (by omega)
  replace hL := hLn
  clear hLn
  refine g_aload_n (pc := 22) (pl := 0) X dX4_copyFrom_22 rfl ?_
  refine g_getf (pc := 23) X zF_X4_copyFrom_23 hO rfl dX4_copyFrom_23 ?_
  refine g_aload_n (pc := 26) (pl := 1) X dX4_copyFrom_26 rfl ?_
  refine g_getf (pc := 27) X zF_X4_copyFrom_23 hOo rfl dX4_copyFrom_27 ?_
  obtain ⟨hRO, -⟩ := id hW
  refine gVv (pc := 30) (n2 := 0) (k2 := 0) X cs_X4_copyFrom_43 (c_X6_copyFrom (zl K) D base (q + 5) 60 (o + 5) 60 (g 0) (g2 0) (OW g) (OW g2) (by omega) (by omega) (by omega)) rfl hRO (by omega) ⟨hW, hWo⟩ rfl ⟨Nat.le_of_ble_eq_true rfl, Nat.le_of_ble_eq_true rfl⟩ dX4_copyFrom_30 (Nat.le_of_ble_eq_true rfl) rfl rfl (fun H3 hp30 hs30 => ?_)
  obtain ⟨hWn, hfc⟩ := hp30
  replace hO := hO.fr hfc (by omega)
  replace hOo := hOo.fr hfc (by omega)
  replace hS := hS.fr hfc (by omega)
  replace hL := hL.fr hfc (by omega)
  replace hQ := hQ.fr hfc (by omega)
  replace hRa := hRa.fr hfc (by omega)
  replace hNt := hNt.fr hfc ⟨hpi, by omega⟩
  replace hX := hX.fr hfc (by omega)
  replace hSo := hSo.fr hfc (by omega)
  replace hLo := hLo.fr hfc (by omega)
  replace hWo := hWo.fr hfc (by omega)
  replace hW := hWn
  clear hWn
  refine g_aload_n (pc := 33) (pl := 0) X dX4_copyFrom_33 rfl ?_
  refine g_aload_n (pc := 34) (pl := 1) X dX4_copyFrom_34 rfl ?_
  refine g_getf (pc := 35) X zF_X4_copyFrom_47 hOo rfl dX4_copyFrom_35 ?_
  refine g_putf (pc := 38) X zW_X4_copyFrom_47 hO (by omega) rfl rfl rfl dX4_copyFrom_38 (fun H4 hOn hf4 => ?_)
  replace hOo := hOo.fr hf4 (by omega)
  replace hS := hS.fr hf4 (by omega)
  replace hL := hL.fr hf4 (by omega)
  replace hW := hW.fr hf4 (by omega)
  replace hQ := hQ.fr hf4 (by omega)
  replace hRa := hRa.fr hf4 (by omega)
  replace hNt := hNt.fr hf4 ⟨hpi, by omega⟩
  replace hX := hX.fr hf4 (by omega)
  replace hSo := hSo.fr hf4 (by omega)
  replace hLo := hLo.fr hf4 (by omega)
  replace hWo := hWo.fr hf4 (by omega)
  replace hO : Ob D q 4 [.ref (q + 1), .ref (q + 3), .ref (q + 5), .ref (q + 7), .int (J (g2 1)), .ref (q + 8)] H4 := hOn
  clear hOn
  refine g_iconst (pc := 41) X dX4_copyFrom_41 ?_
  refine g_istore_n (pc := 42) (lv' := [(2, _), (0, _), (1, _)]) X dX4_copyFrom_42 (by decide) rfl ?_
  have hL43 : ∀ (fu : Nat) (n : Nat) (ni : Int) (Hx : Heap), (g2 1).toNat - n < fu → ((n : Int) ≤ g2 1) → (ni = (n : Int)) → (PgO D q (g2 1) Hx) → (RowAt D (q + 1) 3 3 (fun i => g2 (2 + i)) Hx) → (RowAt D (q + 3) 60 (g2 0) (LT g2) Hx) → (RowAt D (q + 5) 60 (g2 0) (OW g2) Hx) → (Ra D (q + 7) 2 16 (fun i => some (q + 9 + 7 * pi i)) Hx) → (NtsAt D q g2 pi (fun j => j < (n : Int)) Hx) → (PgP D q Hx) → (PageAt D o g2 Hx) → (Fr (Iv q (q + 121)) 0 H Hx) → G K 0 0 Hx 43 [(0, .ref q), (1, .ref o), (2, .int (J ni))] [] := by
    intro fu
    induction fu with
    | zero => intro n ni Hx hm; exact absurd hm (Nat.not_lt_zero _)
    | succ fu ih43 =>
      intro n ni Hx hm h1 he hO hS hL hW hRa hNt hQ hX h3
      subst he
      refine g_iload_n (pc := 43) (pl := 2) X dX4_copyFrom_43 rfl ?_
      refine g_aload_n (pc := 44) (pl := 0) X dX4_copyFrom_44 rfl ?_
      refine g_getf (pc := 45) X zF_X4_copyFrom_47 hO rfl dX4_copyFrom_45 ?_
      refine g_icmp_ge (pc := 48) X 85 dX4_copyFrom_48 (by decide) (by omega) (by omega) (fun c48 => ?_) (fun c48 => ?_)
      · skip
        refine g_vret (pc := 85) X R hH dX4_copyFrom_85 ?_
        exact ⟨⟨hO, hS, hL, hW, PgN.close hRa hpi (fun k h0 h1 => (hNt k h0 h1).weak (fun z => by omega)), hQ, hj0, hj1⟩, h3⟩
      · skip
        refine g_aload_n (pc := 51) (pl := 0) X dX4_copyFrom_51 rfl ?_
        refine g_iload_n (pc := 52) (pl := 2) X dX4_copyFrom_52 rfl ?_
        refine gVr (pc := 53) (n2 := 0) (k2 := 0) X cs_X4_copyFrom_51 (c_X4_find (zl K) D base q (g2 1) (n : Int) pi (by omega) (by omega) (by omega)) rfl hO (by omega) ⟨hO, hRa⟩ rfl ⟨Nat.le_of_ble_eq_true rfl, Nat.le_of_ble_eq_true rfl⟩ dX4_copyFrom_53 (Nat.le_of_ble_eq_true rfl) rfl rfl (fun v53 H5 hp53 hs53 => ?_)
        obtain ⟨rfl, rfl⟩ := hp53
        rw [fnd_in (q := q) (pi := pi) (k := (g2 1)) (i := (n : Int)) (by omega)]
        refine g_astore_n (pc := 56) (lv' := [(3, _), (0, _), (1, _), (2, _)]) X dX4_copyFrom_56 (by decide) rfl ?_
        refine g_aload_n (pc := 57) (pl := 2) X dX4_copyFrom_57 rfl ?_
        refine g_iload_n (pc := 58) (pl := 3) X dX4_copyFrom_58 rfl ?_
        obtain ⟨hOo, -, -, -, hNo, -, -, -⟩ := id hX
        obtain ⟨pj, hRb, hpj, hNu⟩ := hNo.op
        refine gVr (pc := 59) (n2 := 0) (k2 := 0) X cs_X4_copyFrom_51 (c_X4_find (zl K) D base o (g2 1) (n : Int) pj (by omega) (by omega) (by omega)) rfl hOo (by omega) ⟨hOo, hRb⟩ rfl ⟨Nat.le_of_ble_eq_true rfl, Nat.le_of_ble_eq_true rfl⟩ dX4_copyFrom_59 (Nat.le_of_ble_eq_true rfl) rfl rfl (fun v59 H5 hp59 hs59 => ?_)
        obtain ⟨rfl, rfl⟩ := hp59
        rw [fnd_in (q := o) (pi := pj) (k := (g2 1)) (i := (n : Int)) (by omega)]
        refine g_astore (pc := 62) (lv' := [(4, _), (3, _), (0, _), (1, _), (2, _)]) X dX4_copyFrom_62 (by decide) rfl ?_
        refine g_aload_n (pc := 64) (pl := 1) X dX4_copyFrom_64 rfl ?_
        refine g_ifnull (pc := 65) X dX4_copyFrom_65 ?_
        refine g_aload (pc := 68) (pl := 0) X dX4_copyFrom_68 rfl ?_
        refine g_ifnull (pc := 70) X dX4_copyFrom_70 ?_
        refine g_aload_n (pc := 73) (pl := 1) X dX4_copyFrom_73 rfl ?_
        refine g_aload (pc := 74) (pl := 0) X dX4_copyFrom_74 rfl ?_
        have hpb := hpi.1 (n : Int) (by omega) (by omega)
        have hpc := hpj.1 (n : Int) (by omega) (by omega)
        obtain ⟨t, wl, al, bl, w, na, nb, hN1, hrt, -⟩ := hNt (n : Int) (by omega) (by omega)
        obtain ⟨t2, wl2, al2, bl2, w2, a2, b2, hN2, hrt2, hni2⟩ := hNu (n : Int) (by omega) (by omega)
        obtain ⟨hNO, -⟩ := id hN1
        refine gVv (pc := 76) (n2 := 0) (k2 := 0) X cs_X4_copyFrom_55 (c_X2_copyFrom (zl K) D base (q + 9 + 7 * pi (n : Int)) t wl al bl w na nb (o + 9 + 7 * pj (n : Int)) t2 wl2 al2 bl2 w2 a2 b2 (by omega) (by omega)) rfl hNO (by omega) ⟨hN1, hN2⟩ rfl ⟨Nat.le_of_ble_eq_true rfl, Nat.le_of_ble_eq_true rfl⟩ dX4_copyFrom_76 (Nat.le_of_ble_eq_true rfl) rfl rfl (fun H5 hp76 hs76 => ?_)
        obtain ⟨hN3, hfd⟩ := hp76
        replace hO := hO.fr hfd (by omega)
        replace hS := hS.fr hfd (by omega)
        replace hL := hL.fr hfd (by omega)
        replace hW := hW.fr hfd (by omega)
        replace hQ := hQ.fr hfd (by omega)
        replace hRa := hRa.fr hfd (by omega)
        replace hX := hX.fr hfd (by omega)
        replace hNt : NtsAt D q g2 pi (fun j => j < ((n + 1 : Nat) : Int)) H5 := hNt.one hpi (by omega) hfd ⟨t2, wl2, al2, bl2, w2, a2, b2, hN3, hrt2, fun _ => hni2 (by omega)⟩ (fun k h0 h1 hne hk => ⟨by omega, NEq.refl _ _⟩)
        refine g_iinc (pc := 79) (pl := 4) (x := (n : Int)) (lv' := [(2, _), (4, _), (3, _), (0, _), (1, _)]) X dX4_copyFrom_79 rfl (by decide) rfl ?_
        refine g_goto (pc := 82) X 43 dX4_copyFrom_82 (by decide) ?_
        refine G.pick [3, 4, 0] (lv' := [(0, _), (1, _), (2, _)]) rfl ?_
        exact ih43 (n + 1) _ H5 (by omega) (by omega) (by omega) hO hS hL hW hRa hNt hQ hX (Fr.trans (h3.wide (by omega) (by omega)) (hfd.wide (by omega) (by omega)))
  refine G.pick [1, 2, 0] (lv' := [(0, _), (1, _), (2, _)]) rfl ?_
  exact hL43 _ 0 _ H4 (Nat.lt_succ_self _) (by omega) rfl hO hS hL hW hRa hNt.none hQ hX (Fr.trans (hfa.wide (by omega) (by omega)) (Fr.trans (hfb.wide (by omega) (by omega)) (Fr.trans (hfc.wide (by omega) (by omega)) (hf4.wide (by omega) (by omega)))))


abbrev rm_X4_addNote : Room := { frames := 4, cells := 0, slots := 0, locals := 95 }
theorem cs_X4_addNote_94 : zCV RX4 wsX4_addNote 94 4 yX4_passageError wsX4_passageError cX4_passageError 3 (some .int) rm_X4_addNote rm_X4_passageError 2 := ⟨_, _, gX4_addNote_X4_passageError, rfl, ⟨by decide +kernel, by decide +kernel, by decide +kernel⟩, ⟨Nat.le_of_ble_eq_true rfl, Nat.le_of_ble_eq_true rfl⟩, rfl, rfl⟩
theorem zF_X4_addNote_47 : zF RX4 wsX4_addNote 4 4 47 := ⟨RX4, TX4, 6, rfl, by decide +kernel, by decide, by decide +kernel⟩
theorem zW_X4_addNote_47 : zW RX4 wsX4_addNote 4 4 47 false (tyX4 4) := ⟨RX4, TX4, 6, tyX4, rfl, by decide +kernel, by decide, by decide +kernel, tyX4_ok, nmX4, rfl, rfl, rfl⟩
theorem cs_X4_addNote_105 : zCV RX4 wsX4_addNote 105 4 yX4_anchor wsX4_anchor cX4_anchor 6 none rm_X4_addNote rm_X4_anchor 3 := ⟨_, _, gX4_addNote_X4_anchor, rfl, ⟨by decide +kernel, by decide +kernel, by decide +kernel⟩, ⟨Nat.le_of_ble_eq_true rfl, Nat.le_of_ble_eq_true rfl⟩, rfl, rfl⟩
set_option maxRecDepth 100000 in
theorem c_X4_addNote (l : Launch) (D : zD) (base : Nat) (q : Nat) (g : Int → Int) (a b : Int) (hq : base ≤ q) (hI : PInv g) (ha : rg a) (hb : rg b) : Ct l yX4_addNote wsX4_addNote rm_X4_addNote D base [.ref q, .int (J a), .int (J b)] (fun H => PageAt D q g H) (PI (fun H v H1 => ntR g a b = v ∧ PageAt D q (ntG g a b) H1 ∧ Fr (Iv q (q + 121)) 0 H H1)) := by
  refine Ct.of (own := RX4) (cc := cX4_addNote) (maxL := 5) (by decide +kernel) rfl (Nat.le_of_ble_eq_true rfl) rfl ?_
  intro K H X R hH hnm hP
  show G K 0 0 H 0 [(0, .ref q), (1, .int (J a)), (2, .int (J b))] []
  have hPg := hP
  obtain ⟨hO, hS, hL, hW, hN, hQ, hk0, hk1⟩ := hP
  have hnum := hI.nums
  refine g_aload_n (pc := 0) (pl := 0) X dX4_addNote_0 rfl ?_
  refine g_iload_n (pc := 1) (pl := 1) X dX4_addNote_1 rfl ?_
  refine g_iload_n (pc := 2) (pl := 2) X dX4_addNote_2 rfl ?_
  refine gVi (pc := 3) (n2 := 0) (k2 := 0) X cs_X4_addNote_94 (c_X4_passageError (zl K) D base q g a b hq ha hb) rfl hO (by omega) ⟨hO, hL⟩ rfl ⟨Nat.le_of_ble_eq_true rfl, Nat.le_of_ble_eq_true rfl⟩ dX4_addNote_3 (Nat.le_of_ble_eq_true rfl) rfl rfl (fun v3 H1 hp3 hs3 => ?_)
  obtain ⟨rfl, rfl⟩ := hp3
  have hpe := perr_bd g a b
  refine g_istore_n (pc := 6) (lv' := [(3, _), (0, _), (1, _), (2, _)]) X dX4_addNote_6 (by decide) rfl ?_
  refine g_iload_n (pc := 7) (pl := 0) X dX4_addNote_7 rfl ?_
  refine g_if_ge (pc := 8) X 13 dX4_addNote_8 (by decide) (by omega) (fun c8 => ?_) (fun c8 => ?_)
  · skip
    have hab := perr_ok (g := g) (a := a) (b := b) (by omega)
    refine g_aload_n (pc := 13) (pl := 1) X dX4_addNote_13 rfl ?_
    refine g_getf (pc := 14) X zF_X4_addNote_47 hO rfl dX4_addNote_14 ?_
    refine g_bipush (pc := 17) X dX4_addNote_17 (by decide +kernel) ?_
    refine g_icmp_lt (pc := 19) X 25 dX4_addNote_19 (by decide) (by omega) (by omega) (fun c19 => ?_) (fun c19 => ?_)
    · skip
      refine g_aload_n (pc := 25) (pl := 1) X dX4_addNote_25 rfl ?_
      refine g_getf (pc := 26) X zF_X4_addNote_47 hO rfl dX4_addNote_26 ?_
      refine g_istore (pc := 29) (lv' := [(4, _), (3, _), (0, _), (1, _), (2, _)]) X dX4_addNote_29 (by decide) rfl ?_
      refine g_aload_n (pc := 31) (pl := 2) X dX4_addNote_31 rfl ?_
      refine g_dup (pc := 32) X dX4_addNote_32 rfl ?_
      refine g_getf (pc := 33) X zF_X4_addNote_47 hO rfl dX4_addNote_33 ?_
      refine g_iconst (pc := 36) X dX4_addNote_36 ?_
      refine g_iadd (pc := 37) X dX4_addNote_37 ?_
      refine g_putf (pc := 38) X zW_X4_addNote_47 hO (by omega) rfl rfl rfl dX4_addNote_38 (fun H1 hOn hf1 => ?_)
      replace hS := hS.fr hf1 (by omega)
      replace hL := hL.fr hf1 (by omega)
      replace hW := hW.fr hf1 (by omega)
      replace hN := hN.fr hf1 (by omega)
      replace hQ := hQ.fr hf1 (by omega)
      replace hO : Ob D q 4 [.ref (q + 1), .ref (q + 3), .ref (q + 5), .ref (q + 7), .int (J ((g 1) + 1)), .ref (q + 8)] H1 := hOn
      clear hOn
      refine g_aload_n (pc := 41) (pl := 2) X dX4_addNote_41 rfl ?_
      refine g_iload (pc := 42) (pl := 0) X dX4_addNote_42 rfl ?_
      refine g_iload_n (pc := 44) (pl := 3) X dX4_addNote_44 rfl ?_
      refine g_iload_n (pc := 45) (pl := 4) X dX4_addNote_45 rfl ?_
      have u1 : up g 1 (g 1 + 1) 1 = g 1 + 1 := if_pos rfl
      have u0 : ∀ j : Int, ¬ j = 1 → up g 1 (g 1 + 1) j = g j := fun j h => if_neg h
      obtain ⟨pi, hRa, hpi, hNt⟩ := hN.op
      have v0 := u0 0 (by omega)
      have v2 := u0 2 (by omega)
      have hpre : PgO D q ((up g 1 (g 1 + 1)) 1) H1 ∧ RowAt D (q + 1) 3 3 (fun i => (up g 1 (g 1 + 1)) (2 + i)) H1 ∧ RowAt D (q + 3) 60 ((up g 1 (g 1 + 1)) 0) (LT (up g 1 (g 1 + 1))) H1 ∧ RowAt D (q + 5) 60 ((up g 1 (g 1 + 1)) 0) (OW (up g 1 (g 1 + 1))) H1 ∧ (∃ pi : Int → Nat, Ra D (q + 7) 2 16 (fun i => some (q + 9 + 7 * pi i)) H1 ∧ PgI pi ∧ NtsAt D q (up g 1 (g 1 + 1)) pi (fun j => j < (up g 1 (g 1 + 1)) 1 ∧ ¬ j = (g 1)) H1) ∧ PgP D q H1 := ⟨by rw [u1]; exact hO, hS.congr (fun j h0 h1 => (u0 (2 + j) (by omega)).symm), by rw [v0]; exact hL.congr (fun j h0 h1 => (u0 (5 + j) (by omega)).symm), by rw [v0]; exact hW.congr (fun j h0 h1 => (u0 (65 + j) (by omega)).symm), ⟨pi, hRa, hpi, fun k h0 h1 => ((hNt k h0 h1).weak (fun z => by have := z.2; have := z.1; rw [u1] at this; omega)).congr (fun z => NEq.of h0 (fun j h => (u0 j (by omega)).symm))⟩, hQ⟩
      have how : ∀ j : Int, 0 ≤ j → j < (up g 1 (g 1 + 1)) 0 → 0 ≤ OW (up g 1 (g 1 + 1)) j ∧ OW (up g 1 (g 1 + 1)) j < 65536 := fun j h0 h1 => by rw [v0] at h1; show 0 ≤ (up g 1 (g 1 + 1)) (65 + j) ∧ (up g 1 (g 1 + 1)) (65 + j) < 65536; rw [u0 (65 + j) (by omega)]; exact hI.own j h0 h1
      have hoth : ∀ k : Int, 0 ≤ k → k < (up g 1 (g 1 + 1)) 1 → ¬ k = g 1 → (up g 1 (g 1 + 1)) (125 + 80 * k) = -6 → (up g 1 (g 1 + 1)) (126 + 80 * k) ≤ 60 ∧ (up g 1 (g 1 + 1)) (187 + 80 * k) ≤ 8 ∧ (up g 1 (g 1 + 1)) (196 + 80 * k) ≤ 8 := fun k h0 h1 h2 h3 => by rw [u1] at h1; rw [u0 _ (by omega)] at h3; rw [u0 _ (by omega), u0 (187 + 80 * k) (by omega), u0 (196 + 80 * k) (by omega)]; have := hI.nt h0 (by omega) h3; omega
      refine gVv (pc := 46) (n2 := 0) (k2 := 0) X cs_X4_addNote_105 (c_X4_anchor (zl K) D base q (up g 1 (g 1 + 1)) (g 1) a b hq (by rw [u1]; omega) (by rw [v0]; omega) (by rw [v2]; omega) how hoth) rfl hO (by omega) hpre rfl ⟨Nat.le_of_ble_eq_true rfl, Nat.le_of_ble_eq_true rfl⟩ dX4_addNote_46 (Nat.le_of_ble_eq_true rfl) rfl rfl (fun H2 hp46 hs46 => ?_)
      obtain ⟨hPn, hfa⟩ := hp46
      refine g_iload (pc := 49) (pl := 0) X dX4_addNote_49 rfl ?_
      refine g_iret (pc := 51) X R hH dX4_addNote_51 ?_
      have hm : ntR g a b = g 1 := by unfold ntR; rw [if_neg (by omega), if_neg (by omega)]
      exact ⟨hm, by rw [show ntG g a b = anG (up g 1 (g 1 + 1)) (g 1) a b from if_neg (by omega)]; exact hPn, (Fr.trans (hf1.wide (by omega) (by omega)) (hfa.wide (by omega) (by omega)))⟩
    · skip
      refine g_bipush (pc := 22) X dX4_addNote_22 (by decide +kernel) ?_
      refine g_iret (pc := 24) X R hH dX4_addNote_24 ?_
      have hm : ntR g a b = -4 := by unfold ntR; rw [if_neg (by omega), if_pos (by omega)]
      exact ⟨hm, by rw [show ntG g a b = g from if_pos (by omega)]; exact hPg, Fr.refl _ _⟩
  · skip
    refine g_iload_n (pc := 11) (pl := 0) X dX4_addNote_11 rfl ?_
    refine g_iret (pc := 12) X R hH dX4_addNote_12 ?_
    exact ⟨by unfold ntR; rw [if_pos (by omega)], by rw [show ntG g a b = g from if_pos (by unfold ntR; rw [if_pos (by omega)]; omega)]; exact hPg, Fr.refl _ _⟩

abbrev rm_X4_addReply : Room := { frames := 2, cells := 0, slots := 0, locals := 41 }
theorem cs_X4_addReply_51 : zCV RX4 wsX4_addReply 51 4 yX4_find wsX4_find cX4_find 2 (some (.object "AnchoredNotes$Note")) rm_X4_addReply rm_X4_find 1 := ⟨_, _, gX4_addReply_X4_find, rfl, ⟨by decide +kernel, by decide +kernel, by decide +kernel⟩, ⟨Nat.le_of_ble_eq_true rfl, Nat.le_of_ble_eq_true rfl⟩, rfl, rfl⟩
theorem zF_X4_addReply_47 : zF RX4 wsX4_addReply 4 4 47 := ⟨RX4, TX4, 6, rfl, by decide +kernel, by decide, by decide +kernel⟩
theorem zW_X4_addReply_47 : zW RX4 wsX4_addReply 4 4 47 false (tyX4 4) := ⟨RX4, TX4, 6, tyX4, rfl, by decide +kernel, by decide, by decide +kernel, tyX4_ok, nmX4, rfl, rfl, rfl⟩
theorem cs_X4_addReply_112 : zCV RX4 wsX4_addReply 112 2 yX2_becomeReply wsX2_becomeReply cX2_becomeReply 2 none rm_X4_addReply rm_X2_becomeReply 1 := ⟨_, _, gX4_addReply_X2_becomeReply, rfl, ⟨by decide +kernel, by decide +kernel, by decide +kernel⟩, ⟨Nat.le_of_ble_eq_true rfl, Nat.le_of_ble_eq_true rfl⟩, rfl, rfl⟩
set_option maxRecDepth 100000 in
theorem c_X4_addReply (l : Launch) (D : zD) (base : Nat) (q : Nat) (g : Int → Int) (n : Int) (hq : base ≤ q) (hI : PInv g) (hn : rg n) : Ct l yX4_addReply wsX4_addReply rm_X4_addReply D base [.ref q, .int (J n)] (fun H => PageAt D q g H) (PI (fun H v H1 => rpR g n = v ∧ PageAt D q (rpG g n) H1 ∧ Fr (Iv q (q + 121)) 0 H H1)) := by
  refine Ct.of (own := RX4) (cc := cX4_addReply) (maxL := 4) (by decide +kernel) rfl (Nat.le_of_ble_eq_true rfl) rfl ?_
  intro K H X R hH hnm hP
  show G K 0 0 H 0 [(0, .ref q), (1, .int (J n))] []
  have hPg := hP
  obtain ⟨hO, hS, hL, hW, hN, hQ, hk0, hk1⟩ := hP
  have hnum := hI.nums
  obtain ⟨pi, hRa, hpi, hNt⟩ := hN.op
  refine g_aload_n (pc := 0) (pl := 0) X dX4_addReply_0 rfl ?_
  refine g_iload_n (pc := 1) (pl := 1) X dX4_addReply_1 rfl ?_
  by_cases hc : 0 ≤ n ∧ n < g 1
  · skip
    refine gVr (pc := 2) (n2 := 0) (k2 := 0) X cs_X4_addReply_51 (c_X4_find (zl K) D base q (g 1) n pi (by omega) (by omega) (by omega)) rfl hO (by omega) ⟨hO, hRa⟩ rfl ⟨Nat.le_of_ble_eq_true rfl, Nat.le_of_ble_eq_true rfl⟩ dX4_addReply_2 (Nat.le_of_ble_eq_true rfl) rfl rfl (fun v2 H1 hp2 hs2 => ?_)
    obtain ⟨rfl, rfl⟩ := hp2
    rw [fnd_in (q := q) (pi := pi) (k := (g 1)) (i := n) (by omega)]
    refine g_ifnonnull (pc := 5) X 10 dX4_addReply_5 (by decide) ?_
    refine g_aload_n (pc := 10) (pl := 0) X dX4_addReply_10 rfl ?_
    refine g_getf (pc := 11) X zF_X4_addReply_47 hO rfl dX4_addReply_11 ?_
    refine g_bipush (pc := 14) X dX4_addReply_14 (by decide +kernel) ?_
    refine g_icmp_lt (pc := 16) X 22 dX4_addReply_16 (by decide) (by omega) (by omega) (fun c16 => ?_) (fun c16 => ?_)
    · skip
      refine g_aload_n (pc := 22) (pl := 0) X dX4_addReply_22 rfl ?_
      refine g_getf (pc := 23) X zF_X4_addReply_47 hO rfl dX4_addReply_23 ?_
      refine g_istore_n (pc := 26) (lv' := [(2, _), (0, _), (1, _)]) X dX4_addReply_26 (by decide) rfl ?_
      refine g_aload_n (pc := 27) (pl := 1) X dX4_addReply_27 rfl ?_
      refine g_dup (pc := 28) X dX4_addReply_28 rfl ?_
      refine g_getf (pc := 29) X zF_X4_addReply_47 hO rfl dX4_addReply_29 ?_
      refine g_iconst (pc := 32) X dX4_addReply_32 ?_
      refine g_iadd (pc := 33) X dX4_addReply_33 ?_
      refine g_putf (pc := 34) X zW_X4_addReply_47 hO (by omega) rfl rfl rfl dX4_addReply_34 (fun H1 hOn hf1 => ?_)
      replace hS := hS.fr hf1 (by omega)
      replace hL := hL.fr hf1 (by omega)
      replace hW := hW.fr hf1 (by omega)
      replace hQ := hQ.fr hf1 (by omega)
      replace hRa := hRa.fr hf1 (by omega)
      replace hNt := hNt.fr hf1 ⟨hpi, by omega⟩
      replace hO : Ob D q 4 [.ref (q + 1), .ref (q + 3), .ref (q + 5), .ref (q + 7), .int (J ((g 1) + 1)), .ref (q + 8)] H1 := hOn
      clear hOn
      refine g_aload_n (pc := 37) (pl := 1) X dX4_addReply_37 rfl ?_
      refine g_iload_n (pc := 38) (pl := 0) X dX4_addReply_38 rfl ?_
      have hpb := hpi.1 (g 1) (by omega) (by omega)
      refine gVr (pc := 39) (n2 := 0) (k2 := 0) X cs_X4_addReply_51 (c_X4_find (zl K) D base q (g 1 + 1) (g 1) pi (by omega) (by omega) (by omega)) rfl hO (by omega) ⟨hO, hRa⟩ rfl ⟨Nat.le_of_ble_eq_true rfl, Nat.le_of_ble_eq_true rfl⟩ dX4_addReply_39 (Nat.le_of_ble_eq_true rfl) rfl rfl (fun v39 H2 hp39 hs39 => ?_)
      obtain ⟨rfl, rfl⟩ := hp39
      rw [fnd_in (q := q) (pi := pi) (k := (g 1 + 1)) (i := g 1) (by omega)]
      refine g_astore_n (pc := 42) (lv' := [(3, _), (2, _), (0, _), (1, _)]) X dX4_addReply_42 (by decide) rfl ?_
      refine g_aload_n (pc := 43) (pl := 0) X dX4_addReply_43 rfl ?_
      refine g_ifnull (pc := 44) X dX4_addReply_44 ?_
      refine g_aload_n (pc := 47) (pl := 0) X dX4_addReply_47 rfl ?_
      refine g_iload_n (pc := 48) (pl := 3) X dX4_addReply_48 rfl ?_
      obtain ⟨t, wl, al, bl, w, na, nb, hNo, hrt, -⟩ := hNt (g 1) (by omega) (by omega)
      obtain ⟨hNO, -⟩ := id hNo
      refine gVv (pc := 49) (n2 := 0) (k2 := 0) X cs_X4_addReply_112 (c_X2_becomeReply (zl K) D base (q + 9 + 7 * pi (g 1)) t wl al bl w na nb n (by omega)) rfl hNO (by omega) hNo rfl ⟨Nat.le_of_ble_eq_true rfl, Nat.le_of_ble_eq_true rfl⟩ dX4_addReply_49 (Nat.le_of_ble_eq_true rfl) rfl rfl (fun H2 hp49 hs49 => ?_)
      obtain ⟨hNo2, hfa⟩ := hp49
      obtain ⟨y1, y2, y3⟩ := rpS_at (g := g) (n := n) (by omega)
      replace hO := hO.fr hfa (by omega)
      replace hS := hS.fr hfa (by omega)
      replace hL := hL.fr hfa (by omega)
      replace hW := hW.fr hfa (by omega)
      replace hQ := hQ.fr hfa (by omega)
      replace hRa := hRa.fr hfa (by omega)
      refine g_iload_n (pc := 52) (pl := 1) X dX4_addReply_52 rfl ?_
      refine g_iret (pc := 53) X R hH dX4_addReply_53 ?_
      have hm : rpR g n = g 1 := by unfold rpR; rw [if_neg (fun z => z hc), if_neg (by omega)]
      refine ⟨hm, ?_, (Fr.trans (hf1.wide (by omega) (by omega)) (hfa.wide (by omega) (by omega)))⟩
      rw [show rpG g n = (up (up (up g (126 + 80 * g 1) 0) (125 + 80 * g 1) n) 1 (g 1 + 1)) from if_neg (by omega)]
      have hNn : NtsAt D q (up (up (up g (126 + 80 * g 1) 0) (125 + 80 * g 1) n) 1 (g 1 + 1)) pi (fun j => j < (up (up (up g (126 + 80 * g 1) 0) (125 + 80 * g 1) n) 1 (g 1 + 1)) 1) H2 := hNt.one hpi (by omega) hfa ⟨n, 0, 0, 0, w, na, nb, hNo2, by omega, fun _ => ⟨y2.symm, fun z => by omega⟩⟩ (fun k h0 h1 hne hk => ⟨by rw [y1] at hk; omega, y3 _ (by omega) (by omega) (by omega) |>.symm, fun z => ⟨(y3 _ (by omega) (by omega) (by omega)).symm, (y3 _ (by omega) (by omega) (by omega)).symm, (y3 _ (by omega) (by omega) (by omega)).symm, fun j d1 d2 => (y3 _ (by omega) (by rw [y1] at hk; have := hI.nt h0 (by omega) z; omega) (by rw [y1] at hk; have := hI.nt h0 (by omega) z; omega)).symm, fun j d1 d2 => (y3 _ (by omega) (by rw [y1] at hk; have := hI.nt h0 (by omega) z; omega) (by rw [y1] at hk; have := hI.nt h0 (by omega) z; omega)).symm, fun j d1 d2 => (y3 _ (by omega) (by rw [y1] at hk; have := hI.nt h0 (by omega) z; omega) (by rw [y1] at hk; have := hI.nt h0 (by omega) z; omega)).symm⟩⟩)
      exact ⟨by rw [y1]; exact hO, hS.congr (fun j h0 h1 => (y3 _ (by omega) (by omega) (by omega)).symm), by rw [y3 0 (by omega) (by omega) (by omega)]; exact hL.congr (fun j h0 h1 => (y3 _ (by omega) (by omega) (by omega)).symm), by rw [y3 0 (by omega) (by omega) (by omega)]; exact hW.congr (fun j h0 h1 => (y3 _ (by omega) (by omega) (by omega)).symm), PgN.close hRa hpi hNn, hQ, by rw [y1]; omega, by rw [y1]; omega⟩
    · skip
      refine g_bipush (pc := 19) X dX4_addReply_19 (by decide +kernel) ?_
      refine g_iret (pc := 21) X R hH dX4_addReply_21 ?_
      have hm : rpR g n = -4 := by unfold rpR; rw [if_neg (fun z => z hc), if_pos (by omega)]
      exact ⟨hm, by rw [show rpG g n = g from if_pos (by omega)]; exact hPg, Fr.refl _ _⟩
  · skip
    refine gVr (pc := 2) (n2 := 0) (k2 := 0) X cs_X4_addReply_51 (c_X4_find (zl K) D base q (g 1) n pi (by omega) (by omega) (by omega)) rfl hO (by omega) ⟨hO, hRa⟩ rfl ⟨Nat.le_of_ble_eq_true rfl, Nat.le_of_ble_eq_true rfl⟩ dX4_addReply_2 (Nat.le_of_ble_eq_true rfl) rfl rfl (fun v2 H1 hp2 hs2 => ?_)
    obtain ⟨rfl, rfl⟩ := hp2
    rw [fnd_out (q := q) (pi := pi) (k := (g 1)) (i := n) (by omega)]
    refine g_ifnonnullN (pc := 5) X dX4_addReply_5 ?_
    refine g_iconst (pc := 8) X dX4_addReply_8 ?_
    refine g_iret (pc := 9) X R hH dX4_addReply_9 ?_
    have hm : rpR g n = -1 := if_pos hc
    exact ⟨hm, by rw [show rpG g n = g from if_pos (by omega)]; exact hPg, Fr.refl _ _⟩

abbrev rm_X4_family : Room := { frames := 1, cells := 0, slots := 0, locals := 21 }
theorem zF_X4_family_47 : zF RX4 wsX4_family 4 4 47 := ⟨RX4, TX4, 6, rfl, by decide +kernel, by decide, by decide +kernel⟩
theorem cs_X4_family_51 : zCV RX4 wsX4_family 51 4 yX4_find wsX4_find cX4_find 2 (some (.object "AnchoredNotes$Note")) rm_X4_family rm_X4_find 1 := ⟨_, _, gX4_family_X4_find, rfl, ⟨by decide +kernel, by decide +kernel, by decide +kernel⟩, ⟨Nat.le_of_ble_eq_true rfl, Nat.le_of_ble_eq_true rfl⟩, rfl, rfl⟩
theorem zF_X4_family_125 : zF RX4 wsX4_family 2 0 125 := ⟨RX2, TX2, 4, rfl, by decide +kernel, by decide, by decide +kernel⟩
theorem cs_X4_family_118 : zCN RX4 wsX4_family 118 yX8_isIn wsX8_isIn cX8_isIn 2 (some .boolean) rm_X4_family rm_X8_isIn 2 := ⟨_, _, gX4_family_X8_isIn_n118, (by decide +kernel : Cond.methodLinkNest RX4 118 yX8_isIn RX8 ∈ zNest), by decide +kernel, by decide +kernel, rfl, ⟨by decide +kernel, by decide +kernel, by decide +kernel⟩, ⟨Nat.le_of_ble_eq_true rfl, Nat.le_of_ble_eq_true rfl⟩⟩
set_option maxRecDepth 100000 in
theorem c_X4_family (l : Launch) (D : zD) (base : Nat) (q : Nat) (g : Int → Int) (n : Int) (hq : base ≤ q) (hI : PInv g) (hn : 0 ≤ n ∧ n < g 1) : Ct l yX4_family wsX4_family rm_X4_family D base [.ref q, .int (J n)] (fun H => PageAt D q g H) (PI (fun H v H1 => H = H1 ∧ famS g n = v)) := by
  refine Ct.of (own := RX4) (cc := cX4_family) (maxL := 5) (by decide +kernel) rfl (Nat.le_of_ble_eq_true rfl) rfl ?_
  intro K H X R hH hnm hP
  show G K 0 0 H 0 [(0, .ref q), (1, .int (J n))] []
  have hPg := hP
  obtain ⟨hO, hS, hL, hW, hN, hQ, hk0, hk1⟩ := hP
  have hnum := hI.nums
  obtain ⟨pi, hRa, hpi, hNt⟩ := hN.op
  refine g_iconst (pc := 0) X dX4_family_0 ?_
  refine g_iload_n (pc := 1) (pl := 1) X dX4_family_1 rfl ?_
  refine g_ishl (pc := 2) (z := J ((fam g n 0 : Nat) : Int)) X dX4_family_2 ((J_shl (by omega) (by omega)).trans (by show J ((1 * 2 ^ n.toNat : Nat) : Int) = _; rw [Nat.one_mul]; rfl)) ?_
  refine g_istore_n (pc := 3) (lv' := [(2, _), (0, _), (1, _)]) X dX4_family_3 (by decide) rfl ?_
  refine g_iload_n (pc := 4) (pl := 2) X dX4_family_4 rfl ?_
  refine g_iconst (pc := 5) X dX4_family_5 ?_
  refine g_iadd (pc := 6) X dX4_family_6 ?_
  refine g_istore_n (pc := 7) (lv' := [(3, _), (2, _), (0, _), (1, _)]) X dX4_family_7 (by decide) rfl ?_
  have hL8 : ∀ (fu : Nat) (k : Nat) (oi z : Int), (g 1 - n).toNat - k < fu → (n + 1 + (k : Int) ≤ g 1) → (oi = n + 1 + (k : Int)) → (z = ((fam g n k : Nat) : Int)) → G K 0 0 H 8 [(0, .ref q), (1, .int (J n)), (2, .int (J z)), (3, .int (J oi))] [] := by
    intro fu
    induction fu with
    | zero => intro k oi z hm; exact absurd hm (Nat.not_lt_zero _)
    | succ fu ih8 =>
      intro k oi z hm h1 he hz
      subst he
      subst hz
      have hz : ((fam g n k : Nat) : Int) = ((fam g n k : Nat) : Int) := rfl
      refine g_iload_n (pc := 8) (pl := 3) X dX4_family_8 rfl ?_
      refine g_aload_n (pc := 9) (pl := 0) X dX4_family_9 rfl ?_
      refine g_getf (pc := 10) X zF_X4_family_47 hO rfl dX4_family_10 ?_
      refine g_icmp_ge (pc := 13) X 52 dX4_family_13 (by decide) (by omega) (by omega) (fun c13 => ?_) (fun c13 => ?_)
      · skip
        refine g_iload_n (pc := 52) (pl := 2) X dX4_family_52 rfl ?_
        refine g_iret (pc := 53) X R hH dX4_family_53 ?_
        refine ⟨rfl, ?_⟩
        unfold famS
        rw [show (g 1 - 1 - n).toNat = k by omega]
      · skip
        refine g_aload_n (pc := 16) (pl := 0) X dX4_family_16 rfl ?_
        refine g_iload_n (pc := 17) (pl := 3) X dX4_family_17 rfl ?_
        refine gVr (pc := 18) (n2 := 0) (k2 := 0) X cs_X4_family_51 (c_X4_find (zl K) D base q (g 1) (n + 1 + (k : Int)) pi (by omega) (by omega) (by omega)) rfl hO (by omega) ⟨hO, hRa⟩ rfl ⟨Nat.le_of_ble_eq_true rfl, Nat.le_of_ble_eq_true rfl⟩ dX4_family_18 (Nat.le_of_ble_eq_true rfl) rfl rfl (fun v18 H1 hp18 hs18 => ?_)
        obtain ⟨rfl, rfl⟩ := hp18
        rw [fnd_in (q := q) (pi := pi) (k := (g 1)) (i := n + 1 + (k : Int)) (by omega)]
        refine g_astore (pc := 21) (lv' := [(4, _), (0, _), (1, _), (2, _), (3, _)]) X dX4_family_21 (by decide) rfl ?_
        refine g_aload (pc := 23) (pl := 0) X dX4_family_23 rfl ?_
        refine g_ifnull (pc := 25) X dX4_family_25 ?_
        refine g_iload_n (pc := 28) (pl := 3) X dX4_family_28 rfl ?_
        refine g_aload (pc := 29) (pl := 0) X dX4_family_29 rfl ?_
        obtain ⟨t, wl, al, bl, w, na, nb, hNo, hrt, hni⟩ := hNt (n + 1 + (k : Int)) (by omega) (by omega)
        have hte : t = tgt g (n + 1 + (k : Int)) := (hni (by omega)).1
        have htg := hI.tg (i := n + 1 + (k : Int)) (by omega) (by omega)
        obtain ⟨hNO, -⟩ := id hNo
        have hpb := hpi.1 (n + 1 + (k : Int)) (by omega) (by omega)
        refine g_getf (pc := 31) X zF_X4_family_125 hNO rfl dX4_family_31 ?_
        have hfb := fam_bd (g := g) (n := n) (by omega) k (by omega)
        refine gNi (pc := 34) (n2 := 0) (k2 := 0) X cs_X4_family_118 (c_X8_isIn (zl K) D base (fam g n k : Int) t (by omega) (by omega)) rfl (by have := hO.lt; omega) trivial rfl ⟨Nat.le_of_ble_eq_true rfl, Nat.le_of_ble_eq_true rfl⟩ dX4_family_34 (Nat.le_of_ble_eq_true rfl) rfl rfl (fun v34 H1 hp34 hs34 => ?_)
        obtain ⟨rfl, rfl⟩ := hp34
        refine g_if_eq (pc := 37) X 46 dX4_family_37 (by decide) (zbr _) (fun c37 => ?_) (fun c37 => ?_)
        · skip
          replace c37 := zb0 c37
          rw [hte] at c37
          have ef := fam_no c37
          refine g_iinc (pc := 46) (pl := 4) (x := n + 1 + (k : Int)) (lv' := [(3, _), (4, _), (0, _), (1, _), (2, _)]) X dX4_family_46 rfl (by decide) rfl ?_
          refine g_goto (pc := 49) X 8 dX4_family_49 (by decide) ?_
          refine G.pick [2, 3, 4, 0] (lv' := [(0, _), (1, _), (2, _), (3, _)]) rfl ?_
          exact ih8 (k + 1) _ _ (by omega) (by omega) (by omega) (by rw [ef])
        · skip
          replace c37 := zb1 c37
          rw [hte] at c37
          have ef := fam_yes c37
          refine g_iload_n (pc := 40) (pl := 3) X dX4_family_40 rfl ?_
          refine g_iconst (pc := 41) X dX4_family_41 ?_
          refine g_iload_n (pc := 42) (pl := 4) X dX4_family_42 rfl ?_
          refine g_ishl (pc := 43) (z := J ((2 ^ (n + 1 + (k : Int)).toNat : Nat) : Int)) X dX4_family_43 ((J_shl (by omega) (by omega)).trans (by rw [show (1 : Int).toNat = 1 from rfl, Nat.one_mul])) ?_
          refine g_ior (pc := 44) (z := J ((fam g n k ||| 2 ^ (n + 1 + (k : Int)).toNat : Nat) : Int)) X dX4_family_44 (by rw [hz]; exact (J_or (by omega) (by first | exact Int.natCast_nonneg _ | exact Int.ofNat_nonneg _)).trans (by rw [Int.toNat_natCast, Int.toNat_natCast])) ?_
          refine g_istore_n (pc := 45) (lv' := [(2, _), (4, _), (0, _), (1, _), (3, _)]) X dX4_family_45 (by decide) rfl ?_
          refine g_iinc (pc := 46) (pl := 4) (x := n + 1 + (k : Int)) (lv' := [(3, _), (2, _), (4, _), (0, _), (1, _)]) X dX4_family_46 rfl (by decide) rfl ?_
          refine g_goto (pc := 49) X 8 dX4_family_49 (by decide) ?_
          refine G.pick [3, 4, 1, 0] (lv' := [(0, _), (1, _), (2, _), (3, _)]) rfl ?_
          exact ih8 (k + 1) _ _ (by omega) (by omega) (by omega) (by rw [ef])
  refine G.pick [2, 3, 1, 0] (lv' := [(0, _), (1, _), (2, _), (3, _)]) rfl ?_
  exact hL8 _ 0 _ _ (Nat.lt_succ_self _) (by omega) (by omega) rfl


abbrev rm_X4_find : Room := { frames := 0, cells := 0, slots := 0, locals := 0 }
theorem zF_X4_find_47 : zF RX4 wsX4_find 4 4 47 := ⟨RX4, TX4, 6, rfl, by decide +kernel, by decide, by decide +kernel⟩
theorem zF_X4_find_28 : zF RX4 wsX4_find 4 3 28 := ⟨RX4, TX4, 6, rfl, by decide +kernel, by decide, by decide +kernel⟩
set_option maxRecDepth 100000 in
theorem c_X4_find (l : Launch) (D : zD) (base : Nat) (q : Nat) (k i : Int) (pi : Int → Nat) (hq : base ≤ q) (hk : 0 ≤ k ∧ k ≤ 16) (hi : rg i) : Ct l yX4_find wsX4_find rm_X4_find D base [.ref q, .int (J i)] (fun H => PgO D q k H ∧ Ra D (q + 7) 2 16 (fun i => some (q + 9 + 7 * pi i)) H) (PR (fun H v H1 => H = H1 ∧ fnd q pi k i = v)) := by
  refine Ct.of (own := RX4) (cc := cX4_find) (maxL := 2) (by decide +kernel) rfl (Nat.le_of_ble_eq_true rfl) rfl ?_
  intro K H X R hH hnm hP
  show G K 0 0 H 0 [(0, .ref q), (1, .int (J i))] []
  obtain ⟨hO, hR⟩ := hP
  refine g_iload_n (pc := 0) (pl := 1) X dX4_find_0 rfl ?_
  refine g_if_lt (pc := 1) X 30 dX4_find_1 (by decide) (by omega) (fun c1 => ?_) (fun c1 => ?_)
  · skip
    refine g_null (pc := 30) X dX4_find_30 ?_
    refine g_aret (pc := 31) X R hH (by first | exact Or.inl rfl | exact Or.inr ⟨_, rfl⟩) dX4_find_31 ?_
    refine ⟨rfl, ?_⟩
    first | exact fnd_in ⟨by omega, by omega⟩ | exact fnd_out (by omega)
  · skip
    refine g_iload_n (pc := 4) (pl := 1) X dX4_find_4 rfl ?_
    refine g_aload_n (pc := 5) (pl := 0) X dX4_find_5 rfl ?_
    refine g_getf (pc := 6) X zF_X4_find_47 hO rfl dX4_find_6 ?_
    refine g_icmp_ge (pc := 9) X 30 dX4_find_9 (by decide) (by omega) (by omega) (fun c9 => ?_) (fun c9 => ?_)
    · skip
      refine g_null (pc := 30) X dX4_find_30 ?_
      refine g_aret (pc := 31) X R hH (by first | exact Or.inl rfl | exact Or.inr ⟨_, rfl⟩) dX4_find_31 ?_
      refine ⟨rfl, ?_⟩
      first | exact fnd_in ⟨by omega, by omega⟩ | exact fnd_out (by omega)
    · skip
      refine g_iload_n (pc := 12) (pl := 1) X dX4_find_12 rfl ?_
      refine g_aload_n (pc := 13) (pl := 0) X dX4_find_13 rfl ?_
      refine g_getf (pc := 14) X zF_X4_find_28 hO rfl dX4_find_14 ?_
      refine g_alenR (pc := 17) X hR (by decide) dX4_find_17 ?_
      refine g_icmp_ge (pc := 18) X 30 dX4_find_18 (by decide) (by omega) (by omega) (fun c18 => ?_) (fun c18 => ?_)
      · skip
        omega
      · skip
        refine g_aload_n (pc := 21) (pl := 0) X dX4_find_21 rfl ?_
        refine g_getf (pc := 22) X zF_X4_find_28 hO rfl dX4_find_22 ?_
        refine g_iload_n (pc := 25) (pl := 1) X dX4_find_25 rfl ?_
        refine g_aaload (pc := 26) (v := .ref (q + 9 + 7 * pi i)) X hR (by decide) (by omega) (by omega) (by omega) rfl dX4_find_26 ?_
        refine g_goto (pc := 27) X 31 dX4_find_27 (by decide) ?_
        refine g_aret (pc := 31) X R hH (by first | exact Or.inl rfl | exact Or.inr ⟨_, rfl⟩) dX4_find_31 ?_
        refine ⟨rfl, ?_⟩
        first | exact fnd_in ⟨by omega, by omega⟩ | exact fnd_out (by omega)

abbrev rm_X4_passageError : Room := { frames := 1, cells := 0, slots := 0, locals := 21 }
theorem zF_X4_passageError_20 : zF RX4 wsX4_passageError 4 1 20 := ⟨RX4, TX4, 6, rfl, by decide +kernel, by decide, by decide +kernel⟩
theorem cs_X4_passageError_58 : zCV RX4 wsX4_passageError 58 6 yX6_has wsX6_has cX6_has 2 (some .boolean) rm_X4_passageError rm_X6_has 1 := ⟨_, _, gX4_passageError_X6_has, rfl, ⟨by decide +kernel, by decide +kernel, by decide +kernel⟩, ⟨Nat.le_of_ble_eq_true rfl, Nat.le_of_ble_eq_true rfl⟩, rfl, rfl⟩
set_option maxRecDepth 100000 in
theorem c_X4_passageError (l : Launch) (D : zD) (base : Nat) (q : Nat) (g : Int → Int) (a b : Int) (hq : base ≤ q) (ha : rg a) (hb : rg b) : Ct l yX4_passageError wsX4_passageError rm_X4_passageError D base [.ref q, .int (J a), .int (J b)] (fun H => PgO D q (g 1) H ∧ RowAt D (q + 3) 60 (g 0) (LT g) H) (PI (fun H v H1 => H = H1 ∧ perr g a b = v)) := by
  refine Ct.of (own := RX4) (cc := cX4_passageError) (maxL := 3) (by decide +kernel) rfl (Nat.le_of_ble_eq_true rfl) rfl ?_
  intro K H X R hH hnm hP
  show G K 0 0 H 0 [(0, .ref q), (1, .int (J a)), (2, .int (J b))] []
  obtain ⟨hO, hL⟩ := hP
  have hbd := hL.bd
  refine g_aload_n (pc := 0) (pl := 0) X dX4_passageError_0 rfl ?_
  refine g_getf (pc := 1) X zF_X4_passageError_20 hO rfl dX4_passageError_1 ?_
  refine g_iload_n (pc := 4) (pl := 1) X dX4_passageError_4 rfl ?_
  obtain ⟨hRO, -⟩ := id hL
  refine gVi (pc := 5) (n2 := 0) (k2 := 0) X cs_X4_passageError_58 (c_X6_has (zl K) D base (q + 3) 60 (g 0) (LT g) a (by omega)) rfl hRO (by omega) hL rfl ⟨Nat.le_of_ble_eq_true rfl, Nat.le_of_ble_eq_true rfl⟩ dX4_passageError_5 (Nat.le_of_ble_eq_true rfl) rfl rfl (fun v5 H1 hp5 hs5 => ?_)
  obtain ⟨rfl, rfl⟩ := hp5
  refine g_if_eq (pc := 8) X 22 dX4_passageError_8 (by decide) (zbr _) (fun c8 => ?_) (fun c8 => ?_)
  · skip
    replace c8 := zb0 c8
    refine g_iconst (pc := 22) X dX4_passageError_22 ?_
    refine g_iret (pc := 23) X R hH dX4_passageError_23 ?_
    refine ⟨rfl, ?_⟩
    unfold perr
    (repeat' split) <;> omega
  · skip
    replace c8 := zb1 c8
    refine g_aload_n (pc := 11) (pl := 0) X dX4_passageError_11 rfl ?_
    refine g_getf (pc := 12) X zF_X4_passageError_20 hO rfl dX4_passageError_12 ?_
    refine g_iload_n (pc := 15) (pl := 2) X dX4_passageError_15 rfl ?_
    obtain ⟨hRO, -⟩ := id hL
    refine gVi (pc := 16) (n2 := 0) (k2 := 0) X cs_X4_passageError_58 (c_X6_has (zl K) D base (q + 3) 60 (g 0) (LT g) b (by omega)) rfl hRO (by omega) hL rfl ⟨Nat.le_of_ble_eq_true rfl, Nat.le_of_ble_eq_true rfl⟩ dX4_passageError_16 (Nat.le_of_ble_eq_true rfl) rfl rfl (fun v16 H1 hp16 hs16 => ?_)
    obtain ⟨rfl, rfl⟩ := hp16
    refine g_if_ne (pc := 19) X 24 dX4_passageError_19 (by decide) (zbr _) (fun c19 => ?_) (fun c19 => ?_)
    · skip
      replace c19 := zb1 c19
      refine g_iload_n (pc := 24) (pl := 2) X dX4_passageError_24 rfl ?_
      refine g_iload_n (pc := 25) (pl := 1) X dX4_passageError_25 rfl ?_
      refine g_icmp_ge (pc := 26) X 34 dX4_passageError_26 (by decide) (by omega) (by omega) (fun c26 => ?_) (fun c26 => ?_)
      · skip
        refine g_iconst (pc := 34) X dX4_passageError_34 ?_
        refine g_iret (pc := 35) X R hH dX4_passageError_35 ?_
        refine ⟨rfl, ?_⟩
        unfold perr
        (repeat' split) <;> omega
      · skip
        refine g_bipush (pc := 29) X dX4_passageError_29 (by decide +kernel) ?_
        refine g_goto (pc := 31) X 35 dX4_passageError_31 (by decide) ?_
        refine g_iret (pc := 35) X R hH dX4_passageError_35 ?_
        refine ⟨rfl, ?_⟩
        unfold perr
        (repeat' split) <;> omega
    · skip
      replace c19 := zb0 c19
      refine g_iconst (pc := 22) X dX4_passageError_22 ?_
      refine g_iret (pc := 23) X R hH dX4_passageError_23 ?_
      refine ⟨rfl, ?_⟩
      unfold perr
      (repeat' split) <;> omega

abbrev rm_X4_piecesOf : Room := { frames := 2, cells := 0, slots := 0, locals := 47 }
theorem zF_X4_piecesOf_35 : zF RX4 wsX4_piecesOf 4 5 35 := ⟨RX4, TX4, 6, rfl, by decide +kernel, by decide, by decide +kernel⟩
theorem zF_X4_piecesOf_23 : zF RX4 wsX4_piecesOf 4 2 23 := ⟨RX4, TX4, 6, rfl, by decide +kernel, by decide, by decide +kernel⟩
theorem cs_X4_piecesOf_156 : zCV RX4 wsX4_piecesOf 156 5 yX5_gather wsX5_gather cX5_gather 7 none rm_X4_piecesOf rm_X5_gather 2 := ⟨_, _, gX4_piecesOf_X5_gather, rfl, ⟨by decide +kernel, by decide +kernel, by decide +kernel⟩, ⟨Nat.le_of_ble_eq_true rfl, Nat.le_of_ble_eq_true rfl⟩, rfl, rfl⟩
set_option maxRecDepth 100000 in
theorem c_X4_piecesOf (l : Launch) (D : zD) (base : Nat) (q : Nat) (k n i : Int) (f : Int → Int) (hq : base ≤ q) (hi : rg i) (hf : ∀ i : Int, 0 ≤ i → i < n → 0 ≤ f i ∧ f i < 65536) : Ct l yX4_piecesOf wsX4_piecesOf rm_X4_piecesOf D base [.ref q, .int (J i)] (fun H => PgO D q k H ∧ RowAt D (q + 5) 60 n f H ∧ PgP D q H) (PR (fun H v H1 => .ref (q + 8) = v ∧ Ob D (q + 8) 5 [.int (J (scP (ownb f i) n.toNat)), .int (J (scL (ownb f i) n.toNat)), .int (J (scF (ownb f i) n.toNat)), .int (J (scE (ownb f i) n.toNat))] H1 ∧ Fr (Iv (q + 8) (q + 9)) 0 H H1)) := by
  refine Ct.of (own := RX4) (cc := cX4_piecesOf) (maxL := 2) (by decide +kernel) rfl (Nat.le_of_ble_eq_true rfl) rfl ?_
  intro K H X R hH hnm hP
  show G K 0 0 H 0 [(0, .ref q), (1, .int (J i))] []
  obtain ⟨hO, hW, ⟨p1, p2, p3, p4, hQ⟩⟩ := hP
  refine g_aload_n (pc := 0) (pl := 0) X dX4_piecesOf_0 rfl ?_
  refine g_getf (pc := 1) X zF_X4_piecesOf_35 hO rfl dX4_piecesOf_1 ?_
  refine g_aload_n (pc := 4) (pl := 0) X dX4_piecesOf_4 rfl ?_
  refine g_getf (pc := 5) X zF_X4_piecesOf_23 hO rfl dX4_piecesOf_5 ?_
  refine g_iload_n (pc := 8) (pl := 1) X dX4_piecesOf_8 rfl ?_
  refine gVv (pc := 9) (n2 := 0) (k2 := 0) X cs_X4_piecesOf_156 (c_X5_gather (zl K) D base (q + 8) (q + 5) p1 p2 p3 p4 n i f (by omega) (by omega) (by omega) hi hf) rfl hQ (by omega) ⟨hQ, hW⟩ rfl ⟨Nat.le_of_ble_eq_true rfl, Nat.le_of_ble_eq_true rfl⟩ dX4_piecesOf_9 (Nat.le_of_ble_eq_true rfl) rfl rfl (fun H1 hp9 hs9 => ?_)
  obtain ⟨hQn, hfa⟩ := hp9
  replace hO := hO.fr hfa (by omega)
  refine g_aload_n (pc := 12) (pl := 0) X dX4_piecesOf_12 rfl ?_
  refine g_getf (pc := 13) X zF_X4_piecesOf_35 hO rfl dX4_piecesOf_13 ?_
  refine g_aret (pc := 16) X R hH (by first | exact Or.inl rfl | exact Or.inr ⟨_, rfl⟩) dX4_piecesOf_16 ?_
  exact ⟨rfl, hQn, hfa⟩

abbrev rm_X4_state : Room := { frames := 3, cells := 0, slots := 0, locals := 68 }
theorem cs_X4_state_51 : zCV RX4 wsX4_state 51 4 yX4_find wsX4_find cX4_find 2 (some (.object "AnchoredNotes$Note")) rm_X4_state rm_X4_find 1 := ⟨_, _, gX4_state_X4_find, rfl, ⟨by decide +kernel, by decide +kernel, by decide +kernel⟩, ⟨Nat.le_of_ble_eq_true rfl, Nat.le_of_ble_eq_true rfl⟩, rfl, rfl⟩
theorem cs_X4_state_146 : zCV RX4 wsX4_state 146 2 yX2_isReply wsX2_isReply cX2_isReply 1 (some .boolean) rm_X4_state rm_X2_isReply 0 := ⟨_, _, gX4_state_X2_isReply, rfl, ⟨by decide +kernel, by decide +kernel, by decide +kernel⟩, ⟨Nat.le_of_ble_eq_true rfl, Nat.le_of_ble_eq_true rfl⟩, rfl, rfl⟩
theorem cs_X4_state_150 : zCV RX4 wsX4_state 150 4 yX4_piecesOf wsX4_piecesOf cX4_piecesOf 2 (some (.object "AnchoredNotes$Pieces")) rm_X4_state rm_X4_piecesOf 1 := ⟨_, _, gX4_state_X4_piecesOf, rfl, ⟨by decide +kernel, by decide +kernel, by decide +kernel⟩, ⟨Nat.le_of_ble_eq_true rfl, Nat.le_of_ble_eq_true rfl⟩, rfl, rfl⟩
theorem zF_X4_state_154 : zF RX4 wsX4_state 5 1 154 := ⟨RX5, TX5, 4, rfl, by decide +kernel, by decide, by decide +kernel⟩
set_option maxRecDepth 100000 in
theorem c_X4_state (l : Launch) (D : zD) (base : Nat) (q : Nat) (g : Int → Int) (i : Int) (hq : base ≤ q) (hI : PInv g) (hi : 0 ≤ i ∧ i < g 1) : Ct l yX4_state wsX4_state rm_X4_state D base [.ref q, .int (J i)] (fun H => PageAt D q g H) (PI (fun H v H1 => stt g i = v ∧ PageAt D q g H1 ∧ Fr (Iv (q + 8) (q + 9)) 0 H H1)) := by
  refine Ct.of (own := RX4) (cc := cX4_state) (maxL := 3) (by decide +kernel) rfl (Nat.le_of_ble_eq_true rfl) rfl ?_
  intro K H X R hH hnm hP
  show G K 0 0 H 0 [(0, .ref q), (1, .int (J i))] []
  have hPg := hP
  obtain ⟨hO, hS, hL, hW, hN, hQ, hk0, hk1⟩ := hP
  have hnum := hI.nums
  obtain ⟨pi, hRa, hpi, hNt⟩ := id hN
  have htg := hI.tg hi.1 hi.2
  obtain ⟨t, wl, al, bl, w, a, b, hNo, hrt, hni⟩ := hNt i hi.1 (by omega)
  have hte : t = g (125 + 80 * i) := (hni hi.2).1
  have hpb := hpi.1 i hi.1 (by omega)
  obtain ⟨hNO, -⟩ := id hNo
  refine g_aload_n (pc := 0) (pl := 0) X dX4_state_0 rfl ?_
  refine g_iload_n (pc := 1) (pl := 1) X dX4_state_1 rfl ?_
  refine gVr (pc := 2) (n2 := 0) (k2 := 0) X cs_X4_state_51 (c_X4_find (zl K) D base q (g 1) i pi (by omega) (by omega) (by omega)) rfl hO (by omega) ⟨hO, hRa⟩ rfl ⟨Nat.le_of_ble_eq_true rfl, Nat.le_of_ble_eq_true rfl⟩ dX4_state_2 (Nat.le_of_ble_eq_true rfl) rfl rfl (fun v2 H1 hp2 hs2 => ?_)
  obtain ⟨rfl, rfl⟩ := hp2
  rw [fnd_in (q := q) (pi := pi) (k := (g 1)) (i := i) (by omega)]
  refine g_astore_n (pc := 5) (lv' := [(2, _), (0, _), (1, _)]) X dX4_state_5 (by decide) rfl ?_
  refine g_aload_n (pc := 6) (pl := 0) X dX4_state_6 rfl ?_
  refine g_ifnull (pc := 7) X dX4_state_7 ?_
  refine g_aload_n (pc := 10) (pl := 0) X dX4_state_10 rfl ?_
  refine gVi (pc := 11) (n2 := 0) (k2 := 0) X cs_X4_state_146 (c_X2_isReply (zl K) D base (q + 9 + 7 * pi i) t wl al bl w a b (by omega) hrt) rfl hNO (by omega) hNo rfl ⟨Nat.le_of_ble_eq_true rfl, Nat.le_of_ble_eq_true rfl⟩ dX4_state_11 (Nat.le_of_ble_eq_true rfl) rfl rfl (fun v11 H1 hp11 hs11 => ?_)
  obtain ⟨rfl, rfl⟩ := hp11
  refine g_if_eq (pc := 14) X 19 dX4_state_14 (by decide) (zbr _) (fun c14 => ?_) (fun c14 => ?_)
  · skip
    replace c14 := zb0 c14
    refine g_aload_n (pc := 19) (pl := 1) X dX4_state_19 rfl ?_
    refine g_iload_n (pc := 20) (pl := 2) X dX4_state_20 rfl ?_
    refine gVr (pc := 21) (n2 := 0) (k2 := 0) X cs_X4_state_150 (c_X4_piecesOf (zl K) D base q (g 1) (g 0) i (OW g) hq (by omega) hI.own) rfl hO (by omega) ⟨hO, hW, hQ⟩ rfl ⟨Nat.le_of_ble_eq_true rfl, Nat.le_of_ble_eq_true rfl⟩ dX4_state_21 (Nat.le_of_ble_eq_true rfl) rfl rfl (fun v21 H1 hp21 hs21 => ?_)
    obtain ⟨rfl, hQn, hfa⟩ := hp21
    replace hO := hO.fr hfa (by omega)
    replace hNO := hNO.fr hfa (by omega)
    replace hS := hS.fr hfa (by omega)
    replace hL := hL.fr hfa (by omega)
    replace hW := hW.fr hfa (by omega)
    replace hN := hN.fr hfa (by omega)
    have hQ8 : Ob D (q + 8) 5 [.int (J (ntP g i)), .int (J (ntL g i)), .int (J (ntF g i)), .int (J (ntE g i))] H1 := hQn
    replace hQ : PgP D q H1 := ⟨_, _, _, _, hQn⟩
    clear hQn
    have hsb := nt_bd g i
    refine g_getf (pc := 24) X zF_X4_state_154 hQ8 rfl dX4_state_24 ?_
    refine g_if_le (pc := 27) X 34 dX4_state_27 (by decide) (by omega) (fun c27 => ?_) (fun c27 => ?_)
    · skip
      refine g_iconst (pc := 34) X dX4_state_34 ?_
      refine g_iret (pc := 35) X R hH dX4_state_35 ?_
      refine ⟨?_, ⟨hO, hS, hL, hW, hN, hQ, hk0, hk1⟩, (hfa.wide (by omega) (by omega))⟩
      simp only [stt, tgt]
      (repeat' split) <;> omega
    · skip
      refine g_iconst (pc := 30) X dX4_state_30 ?_
      refine g_goto (pc := 31) X 35 dX4_state_31 (by decide) ?_
      refine g_iret (pc := 35) X R hH dX4_state_35 ?_
      refine ⟨?_, ⟨hO, hS, hL, hW, hN, hQ, hk0, hk1⟩, (hfa.wide (by omega) (by omega))⟩
      simp only [stt, tgt]
      (repeat' split) <;> omega
  · skip
    replace c14 := zb1 c14
    refine g_iconst (pc := 17) X dX4_state_17 ?_
    refine g_iret (pc := 18) X R hH dX4_state_18 ?_
    refine ⟨?_, ⟨hO, hS, hL, hW, hN, hQ, hk0, hk1⟩, (Fr.refl _ _)⟩
    simp only [stt, tgt]
    (repeat' split) <;> omega

abbrev rm_X4_countParted : Room := { frames := 3, cells := 0, slots := 0, locals := 68 }
theorem zF_X4_countParted_47 : zF RX4 wsX4_countParted 4 4 47 := ⟨RX4, TX4, 6, rfl, by decide +kernel, by decide, by decide +kernel⟩
theorem cs_X4_countParted_150 : zCV RX4 wsX4_countParted 150 4 yX4_piecesOf wsX4_piecesOf cX4_piecesOf 2 (some (.object "AnchoredNotes$Pieces")) rm_X4_countParted rm_X4_piecesOf 1 := ⟨_, _, gX4_countParted_X4_piecesOf, rfl, ⟨by decide +kernel, by decide +kernel, by decide +kernel⟩, ⟨Nat.le_of_ble_eq_true rfl, Nat.le_of_ble_eq_true rfl⟩, rfl, rfl⟩
theorem zF_X4_countParted_163 : zF RX4 wsX4_countParted 5 0 163 := ⟨RX5, TX5, 4, rfl, by decide +kernel, by decide, by decide +kernel⟩
set_option maxRecDepth 100000 in
theorem c_X4_countParted (l : Launch) (D : zD) (base : Nat) (q : Nat) (g : Int → Int) (hq : base ≤ q) (hI : PInv g) : Ct l yX4_countParted wsX4_countParted rm_X4_countParted D base [.ref q] (fun H => PageAt D q g H) (PI (fun H v H1 => ptd g = v ∧ PageAt D q g H1 ∧ Fr (Iv (q + 8) (q + 9)) 0 H H1)) := by
  refine Ct.of (own := RX4) (cc := cX4_countParted) (maxL := 3) (by decide +kernel) rfl (Nat.le_of_ble_eq_true rfl) rfl ?_
  intro K H X R hH hnm hP
  show G K 0 0 H 0 [(0, .ref q)] []
  have hPg := hP
  obtain ⟨hO, hS, hL, hW, hN, hQ, hk0, hk1⟩ := hP
  have hnum := hI.nums
  refine g_iconst (pc := 0) X dX4_countParted_0 ?_
  refine g_istore_n (pc := 1) (lv' := [(1, _), (0, _)]) X dX4_countParted_1 (by decide) rfl ?_
  refine g_iconst (pc := 2) X dX4_countParted_2 ?_
  refine g_istore_n (pc := 3) (lv' := [(2, _), (1, _), (0, _)]) X dX4_countParted_3 (by decide) rfl ?_
  have hL4 : ∀ (fu : Nat) (n : Nat) (zi z1 : Int) (Hx : Heap), (g 1).toNat - n < fu → ((n : Int) ≤ g 1) → (zi = (n : Int)) → (z1 = cnt (fun n => decide (1 < ntP g n)) n) → (PageAt D q g Hx) → (Fr (Iv (q + 8) (q + 9)) 0 H Hx) → G K 0 0 Hx 4 [(0, .ref q), (1, .int (J z1)), (2, .int (J zi))] [] := by
    intro fu
    induction fu with
    | zero => intro n zi z1 Hx hm; exact absurd hm (Nat.not_lt_zero _)
    | succ fu ih4 =>
      intro n zi z1 Hx hm h1 he hz hX h3
      subst he
      obtain ⟨hO, hS, hL, hW, hN, hQ, hk0, hk1⟩ := id hX
      refine g_iload_n (pc := 4) (pl := 2) X dX4_countParted_4 rfl ?_
      refine g_aload_n (pc := 5) (pl := 0) X dX4_countParted_5 rfl ?_
      refine g_getf (pc := 6) X zF_X4_countParted_47 hO rfl dX4_countParted_6 ?_
      have hcb := cnt_bd (fun n => decide (1 < ntP g n)) n
      refine g_icmp_ge (pc := 9) X 33 dX4_countParted_9 (by decide) (by omega) (by omega) (fun c9 => ?_) (fun c9 => ?_)
      · skip
        refine g_iload_n (pc := 33) (pl := 1) X dX4_countParted_33 rfl ?_
        refine g_iret (pc := 34) X R hH dX4_countParted_34 ?_
        have en : (g 1).toNat = n := by omega
        refine ⟨?_, ⟨hO, hS, hL, hW, hN, hQ, hk0, hk1⟩, h3⟩
        unfold ptd
        rw [en]
        exact hz.symm
      · skip
        refine g_aload_n (pc := 12) (pl := 0) X dX4_countParted_12 rfl ?_
        refine g_iload_n (pc := 13) (pl := 2) X dX4_countParted_13 rfl ?_
        refine gVr (pc := 14) (n2 := 0) (k2 := 0) X cs_X4_countParted_150 (c_X4_piecesOf (zl K) D base q (g 1) (g 0) (n : Int) (OW g) hq (by omega) hI.own) rfl hO (by omega) ⟨hO, hW, hQ⟩ rfl ⟨Nat.le_of_ble_eq_true rfl, Nat.le_of_ble_eq_true rfl⟩ dX4_countParted_14 (Nat.le_of_ble_eq_true rfl) rfl rfl (fun v14 H1 hp14 hs14 => ?_)
        obtain ⟨rfl, hQn, hfa⟩ := hp14
        replace hO := hO.fr hfa (by omega)
        replace hS := hS.fr hfa (by omega)
        replace hL := hL.fr hfa (by omega)
        replace hW := hW.fr hfa (by omega)
        replace hN := hN.fr hfa (by omega)
        have hQ8 : Ob D (q + 8) 5 [.int (J (ntP g (n : Int))), .int (J (ntL g (n : Int))), .int (J (ntF g (n : Int))), .int (J (ntE g (n : Int)))] H1 := hQn
        replace hQ : PgP D q H1 := ⟨_, _, _, _, hQn⟩
        clear hQn
        have hsb := nt_bd g (n : Int)
        refine g_getf (pc := 17) X zF_X4_countParted_163 hQ8 rfl dX4_countParted_17 ?_
        refine g_iconst (pc := 20) X dX4_countParted_20 ?_
        refine g_icmp_le (pc := 21) X 27 dX4_countParted_21 (by decide) (by omega) (by omega) (fun c21 => ?_) (fun c21 => ?_)
        · skip
          have ec := cnt_no (P := (fun n => decide (1 < ntP g n))) (n := n) (fun z => by have := of_decide_eq_true z; omega)
          refine g_iinc (pc := 27) (pl := 2) (x := (n : Int)) (lv' := [(2, _), (0, _), (1, _)]) X dX4_countParted_27 rfl (by decide) rfl ?_
          refine g_goto (pc := 30) X 4 dX4_countParted_30 (by decide) ?_
          refine G.pick [1, 2, 0] (lv' := [(0, _), (1, _), (2, _)]) rfl ?_
          exact ih4 (n + 1) _ _ H1 (by omega) (by omega) (by omega) (by omega) ⟨hO, hS, hL, hW, hN, hQ, hk0, hk1⟩ (Fr.trans (h3.wide (by omega) (by omega)) (hfa.wide (by omega) (by omega)))
        · skip
          have ec := cnt_yes (P := (fun n => decide (1 < ntP g n))) (n := n) (decide_eq_true (by omega))
          refine g_iinc (pc := 24) (pl := 1) (x := z1) (lv' := [(1, _), (0, _), (2, _)]) X dX4_countParted_24 rfl (by decide) rfl ?_
          refine g_iinc (pc := 27) (pl := 2) (x := (n : Int)) (lv' := [(2, _), (1, _), (0, _)]) X dX4_countParted_27 rfl (by decide) rfl ?_
          refine g_goto (pc := 30) X 4 dX4_countParted_30 (by decide) ?_
          refine G.pick [2, 1, 0] (lv' := [(0, _), (1, _), (2, _)]) rfl ?_
          exact ih4 (n + 1) _ _ H1 (by omega) (by omega) (by omega) (by omega) ⟨hO, hS, hL, hW, hN, hQ, hk0, hk1⟩ (Fr.trans (h3.wide (by omega) (by omega)) (hfa.wide (by omega) (by omega)))
  refine G.pick [2, 1, 0] (lv' := [(0, _), (1, _), (2, _)]) rfl ?_
  exact hL4 _ 0 _ _ H (Nat.lt_succ_self _) (by omega) rfl rfl hPg (Fr.refl _ _)

abbrev rm_X4_countState : Room := { frames := 4, cells := 0, slots := 0, locals := 90 }
theorem zF_X4_countState_47 : zF RX4 wsX4_countState 4 4 47 := ⟨RX4, TX4, 6, rfl, by decide +kernel, by decide, by decide +kernel⟩
theorem cs_X4_countState_128 : zCV RX4 wsX4_countState 128 4 yX4_state wsX4_state cX4_state 3 (some .int) rm_X4_countState rm_X4_state 1 := ⟨_, _, gX4_countState_X4_state, rfl, ⟨by decide +kernel, by decide +kernel, by decide +kernel⟩, ⟨Nat.le_of_ble_eq_true rfl, Nat.le_of_ble_eq_true rfl⟩, rfl, rfl⟩
set_option maxRecDepth 100000 in
theorem c_X4_countState (l : Launch) (D : zD) (base : Nat) (q : Nat) (g : Int → Int) (w : Int) (hq : base ≤ q) (hI : PInv g) (hw : rg w) : Ct l yX4_countState wsX4_countState rm_X4_countState D base [.ref q, .int (J w)] (fun H => PageAt D q g H) (PI (fun H v H1 => cst g w = v ∧ PageAt D q g H1 ∧ Fr (Iv (q + 8) (q + 9)) 0 H H1)) := by
  refine Ct.of (own := RX4) (cc := cX4_countState) (maxL := 4) (by decide +kernel) rfl (Nat.le_of_ble_eq_true rfl) rfl ?_
  intro K H X R hH hnm hP
  show G K 0 0 H 0 [(0, .ref q), (1, .int (J w))] []
  have hPg := hP
  obtain ⟨hO, hS, hL, hW, hN, hQ, hk0, hk1⟩ := hP
  have hnum := hI.nums
  refine g_iconst (pc := 0) X dX4_countState_0 ?_
  refine g_istore_n (pc := 1) (lv' := [(2, _), (0, _), (1, _)]) X dX4_countState_1 (by decide) rfl ?_
  refine g_iconst (pc := 2) X dX4_countState_2 ?_
  refine g_istore_n (pc := 3) (lv' := [(3, _), (2, _), (0, _), (1, _)]) X dX4_countState_3 (by decide) rfl ?_
  have hL4 : ∀ (fu : Nat) (n : Nat) (zi z1 : Int) (Hx : Heap), (g 1).toNat - n < fu → ((n : Int) ≤ g 1) → (zi = (n : Int)) → (z1 = cnt (fun n => decide (stt g n = w)) n) → (PageAt D q g Hx) → (Fr (Iv (q + 8) (q + 9)) 0 H Hx) → G K 0 0 Hx 4 [(0, .ref q), (1, .int (J w)), (2, .int (J z1)), (3, .int (J zi))] [] := by
    intro fu
    induction fu with
    | zero => intro n zi z1 Hx hm; exact absurd hm (Nat.not_lt_zero _)
    | succ fu ih4 =>
      intro n zi z1 Hx hm h1 he hz hX h3
      subst he
      obtain ⟨hO, hS, hL, hW, hN, hQ, hk0, hk1⟩ := id hX
      refine g_iload_n (pc := 4) (pl := 3) X dX4_countState_4 rfl ?_
      refine g_aload_n (pc := 5) (pl := 0) X dX4_countState_5 rfl ?_
      refine g_getf (pc := 6) X zF_X4_countState_47 hO rfl dX4_countState_6 ?_
      have hcb := cnt_bd (fun n => decide (stt g n = w)) n
      refine g_icmp_ge (pc := 9) X 30 dX4_countState_9 (by decide) (by omega) (by omega) (fun c9 => ?_) (fun c9 => ?_)
      · skip
        refine g_iload_n (pc := 30) (pl := 2) X dX4_countState_30 rfl ?_
        refine g_iret (pc := 31) X R hH dX4_countState_31 ?_
        have en : (g 1).toNat = n := by omega
        refine ⟨?_, ⟨hO, hS, hL, hW, hN, hQ, hk0, hk1⟩, h3⟩
        unfold cst
        rw [en]
        exact hz.symm
      · skip
        refine g_aload_n (pc := 12) (pl := 0) X dX4_countState_12 rfl ?_
        refine g_iload_n (pc := 13) (pl := 3) X dX4_countState_13 rfl ?_
        refine gVi (pc := 14) (n2 := 0) (k2 := 0) X cs_X4_countState_128 (c_X4_state (zl K) D base q g (n : Int) hq hI (by omega)) rfl hO (by omega) hX rfl ⟨Nat.le_of_ble_eq_true rfl, Nat.le_of_ble_eq_true rfl⟩ dX4_countState_14 (Nat.le_of_ble_eq_true rfl) rfl rfl (fun v14 H1 hp14 hs14 => ?_)
        obtain ⟨rfl, hX2, hfa⟩ := hp14
        clear hO hS hL hW hN hQ
        obtain ⟨hO, hS, hL, hW, hN, hQ, -, -⟩ := id hX2
        refine g_iload_n (pc := 17) (pl := 1) X dX4_countState_17 rfl ?_
        refine g_icmp_ne (pc := 18) X 24 dX4_countState_18 (by decide) (by simp only [stt]; (repeat' split) <;> omega) hw (fun c18 => ?_) (fun c18 => ?_)
        · skip
          have ec := cnt_no (P := (fun n => decide (stt g n = w))) (n := n) (fun z => c18 (of_decide_eq_true z))
          refine g_iinc (pc := 24) (pl := 3) (x := (n : Int)) (lv' := [(3, _), (0, _), (1, _), (2, _)]) X dX4_countState_24 rfl (by decide) rfl ?_
          refine g_goto (pc := 27) X 4 dX4_countState_27 (by decide) ?_
          refine G.pick [1, 2, 3, 0] (lv' := [(0, _), (1, _), (2, _), (3, _)]) rfl ?_
          exact ih4 (n + 1) _ _ H1 (by omega) (by omega) (by omega) (by omega) ⟨hO, hS, hL, hW, hN, hQ, hk0, hk1⟩ (Fr.trans (h3.wide (by omega) (by omega)) (hfa.wide (by omega) (by omega)))
        · skip
          have ec := cnt_yes (P := (fun n => decide (stt g n = w))) (n := n) (decide_eq_true c18)
          refine g_iinc (pc := 21) (pl := 2) (x := z1) (lv' := [(2, _), (0, _), (1, _), (3, _)]) X dX4_countState_21 rfl (by decide) rfl ?_
          refine g_iinc (pc := 24) (pl := 3) (x := (n : Int)) (lv' := [(3, _), (2, _), (0, _), (1, _)]) X dX4_countState_24 rfl (by decide) rfl ?_
          refine g_goto (pc := 27) X 4 dX4_countState_27 (by decide) ?_
          refine G.pick [2, 3, 1, 0] (lv' := [(0, _), (1, _), (2, _), (3, _)]) rfl ?_
          exact ih4 (n + 1) _ _ H1 (by omega) (by omega) (by omega) (by omega) ⟨hO, hS, hL, hW, hN, hQ, hk0, hk1⟩ (Fr.trans (h3.wide (by omega) (by omega)) (hfa.wide (by omega) (by omega)))
  refine G.pick [2, 3, 1, 0] (lv' := [(0, _), (1, _), (2, _), (3, _)]) rfl ?_
  exact hL4 _ 0 _ _ H (Nat.lt_succ_self _) (by omega) rfl rfl hPg (Fr.refl _ _)

abbrev rm_X4_lineOf : Room := { frames := 1, cells := 0, slots := 0, locals := 21 }
theorem zF_X4_lineOf_14 : zF RX4 wsX4_lineOf 4 0 14 := ⟨RX4, TX4, 6, rfl, by decide +kernel, by decide, by decide +kernel⟩
theorem cs_X4_lineOf_69 : zCV RX4 wsX4_lineOf 69 6 yX6_item wsX6_item cX6_item 2 (some .int) rm_X4_lineOf rm_X6_item 1 := ⟨_, _, gX4_lineOf_X6_item, rfl, ⟨by decide +kernel, by decide +kernel, by decide +kernel⟩, ⟨Nat.le_of_ble_eq_true rfl, Nat.le_of_ble_eq_true rfl⟩, rfl, rfl⟩
set_option maxRecDepth 100000 in
theorem c_X4_lineOf (l : Launch) (D : zD) (base : Nat) (q : Nat) (g : Int → Int) (p : Int) (hq : base ≤ q) (hI : PInv g) (hp : 0 ≤ p ∧ p ≤ 1000) : Ct l yX4_lineOf wsX4_lineOf rm_X4_lineOf D base [.ref q, .int (J p)] (fun H => PageAt D q g H) (PI (fun H v H1 => H = H1 ∧ p / g 3 = v)) := by
  refine Ct.of (own := RX4) (cc := cX4_lineOf) (maxL := 3) (by decide +kernel) rfl (Nat.le_of_ble_eq_true rfl) rfl ?_
  intro K H X R hH hnm hP
  show G K 0 0 H 0 [(0, .ref q), (1, .int (J p))] []
  have hPg := hP
  obtain ⟨hO, hS, hL, hW, hN, hQ, hk0, hk1⟩ := hP
  have hnum := hI.nums
  refine g_aload_n (pc := 0) (pl := 0) X dX4_lineOf_0 rfl ?_
  refine g_getf (pc := 1) X zF_X4_lineOf_14 hO rfl dX4_lineOf_1 ?_
  refine g_iconst (pc := 4) X dX4_lineOf_4 ?_
  obtain ⟨hRO, -⟩ := id hS
  refine gVi (pc := 5) (n2 := 0) (k2 := 0) X cs_X4_lineOf_69 (c_X6_item (zl K) D base (q + 1) 3 3 (fun i => g (2 + i)) 1 (by omega)) rfl hRO (by omega) hS rfl ⟨Nat.le_of_ble_eq_true rfl, Nat.le_of_ble_eq_true rfl⟩ dX4_lineOf_5 (Nat.le_of_ble_eq_true rfl) rfl rfl (fun v5 H1 hp5 hs5 => ?_)
  obtain ⟨rfl, rfl⟩ := hp5
  have e3 : itm 3 (fun i => g (2 + i)) 1 = g 3 := rfl
  rw [e3]
  refine g_istore_n (pc := 8) (lv' := [(2, _), (0, _), (1, _)]) X dX4_lineOf_8 (by decide) rfl ?_
  refine g_iload_n (pc := 9) (pl := 0) X dX4_lineOf_9 rfl ?_
  refine g_iconst (pc := 10) X dX4_lineOf_10 ?_
  refine g_icmp_ge (pc := 11) X 18 dX4_lineOf_11 (by decide) (by omega) (by omega) (fun c11 => ?_) (fun c11 => ?_)
  · skip
    refine g_iload_n (pc := 18) (pl := 2) X dX4_lineOf_18 rfl ?_
    refine g_iload_n (pc := 19) (pl := 0) X dX4_lineOf_19 rfl ?_
    refine g_idiv (pc := 20) (z := J (p / g 3)) X dX4_lineOf_20 (by rw [J_0, J_inj (by omega) (by omega)]; omega) (J_div (by omega) (by omega)) ?_
    refine g_iret (pc := 21) X R hH dX4_lineOf_21 ?_
    exact ⟨rfl, rfl⟩
  · skip
    omega

abbrev rm_X4_countLines : Room := { frames := 2, cells := 0, slots := 0, locals := 43 }
theorem zF_X4_countLines_20 : zF RX4 wsX4_countLines 4 1 20 := ⟨RX4, TX4, 6, rfl, by decide +kernel, by decide, by decide +kernel⟩
theorem zF_X4_countLines_76 : zF RX4 wsX4_countLines 6 1 76 := ⟨RX6, TX6, 2, rfl, by decide +kernel, by decide, by decide +kernel⟩
theorem cs_X4_countLines_165 : zCV RX4 wsX4_countLines 165 4 yX4_lineOf wsX4_lineOf cX4_lineOf 3 (some .int) rm_X4_countLines rm_X4_lineOf 1 := ⟨_, _, gX4_countLines_X4_lineOf, rfl, ⟨by decide +kernel, by decide +kernel, by decide +kernel⟩, ⟨Nat.le_of_ble_eq_true rfl, Nat.le_of_ble_eq_true rfl⟩, rfl, rfl⟩
set_option maxRecDepth 100000 in
theorem c_X4_countLines (l : Launch) (D : zD) (base : Nat) (q : Nat) (g : Int → Int) (hq : base ≤ q) (hI : PInv g) : Ct l yX4_countLines wsX4_countLines rm_X4_countLines D base [.ref q] (fun H => PageAt D q g H) (PI (fun H v H1 => H = H1 ∧ lns g = v)) := by
  refine Ct.of (own := RX4) (cc := cX4_countLines) (maxL := 1) (by decide +kernel) rfl (Nat.le_of_ble_eq_true rfl) rfl ?_
  intro K H X R hH hnm hP
  show G K 0 0 H 0 [(0, .ref q)] []
  have hPg := hP
  obtain ⟨hO, hS, hL, hW, hN, hQ, hk0, hk1⟩ := hP
  have hnum := hI.nums
  refine g_aload_n (pc := 0) (pl := 0) X dX4_countLines_0 rfl ?_
  refine g_getf (pc := 1) X zF_X4_countLines_20 hO rfl dX4_countLines_1 ?_
  obtain ⟨hRO, -⟩ := id hL
  refine g_getf (pc := 4) X zF_X4_countLines_76 hRO rfl dX4_countLines_4 ?_
  refine g_if_ne (pc := 7) X 14 dX4_countLines_7 (by decide) (by omega) (fun c7 => ?_) (fun c7 => ?_)
  · skip
    refine g_aload_n (pc := 14) (pl := 0) X dX4_countLines_14 rfl ?_
    refine g_aload_n (pc := 15) (pl := 0) X dX4_countLines_15 rfl ?_
    refine g_getf (pc := 16) X zF_X4_countLines_20 hO rfl dX4_countLines_16 ?_
    obtain ⟨hRO, -⟩ := id hL
    refine g_getf (pc := 19) X zF_X4_countLines_76 hRO rfl dX4_countLines_19 ?_
    refine g_iconst (pc := 22) X dX4_countLines_22 ?_
    refine g_isub (pc := 23) X dX4_countLines_23 ?_
    refine gVi (pc := 24) (n2 := 0) (k2 := 0) X cs_X4_countLines_165 (c_X4_lineOf (zl K) D base q g (g 0 - 1) hq hI (by omega)) rfl hO (by omega) hPg rfl ⟨Nat.le_of_ble_eq_true rfl, Nat.le_of_ble_eq_true rfl⟩ dX4_countLines_24 (Nat.le_of_ble_eq_true rfl) rfl rfl (fun v24 H1 hp24 hs24 => ?_)
    obtain ⟨rfl, rfl⟩ := hp24
    refine g_iconst (pc := 27) X dX4_countLines_27 ?_
    refine g_iadd (pc := 28) X dX4_countLines_28 ?_
    refine g_iret (pc := 29) X R hH dX4_countLines_29 ?_
    refine ⟨rfl, ?_⟩
    unfold lns
    split <;> first | rfl | (exfalso; omega)
  · skip
    refine g_iconst (pc := 10) X dX4_countLines_10 ?_
    refine g_goto (pc := 11) X 29 dX4_countLines_11 (by decide) ?_
    refine g_iret (pc := 29) X R hH dX4_countLines_29 ?_
    refine ⟨rfl, ?_⟩
    unfold lns
    split <;> first | rfl | (exfalso; omega)

abbrev rm_X4_leastOf : Room := { frames := 0, cells := 0, slots := 0, locals := 0 }
set_option maxRecDepth 100000 in
theorem c_X4_leastOf (l : Launch) (D : zD) (base : Nat) (s : Int) (hs : rg s) : Ct l yX4_leastOf wsX4_leastOf rm_X4_leastOf D base [.int (J s)] (fun _ => True) (PI (fun H v H1 => H = H1 ∧ loS s = v)) := by
  refine Ct.of (own := RX4) (cc := cX4_leastOf) (maxL := 1) (by decide +kernel) rfl (Nat.le_of_ble_eq_true rfl) rfl ?_
  intro K H X R hH hnm hP
  show G K 0 0 H 0 [(0, .int (J s))] []
  refine g_iload_n (pc := 0) (pl := 0) X dX4_leastOf_0 rfl ?_
  refine g_if_ne (pc := 1) X 8 dX4_leastOf_1 (by decide) (by omega) (fun c1 => ?_) (fun c1 => ?_)
  · skip
    refine g_iconst (pc := 8) X dX4_leastOf_8 ?_
    refine g_iret (pc := 9) X R hH dX4_leastOf_9 ?_
    refine ⟨rfl, ?_⟩
    unfold loS
    split <;> first | rfl | (exfalso; omega)
  · skip
    refine g_iconst (pc := 4) X dX4_leastOf_4 ?_
    refine g_goto (pc := 5) X 9 dX4_leastOf_5 (by decide) ?_
    refine g_iret (pc := 9) X R hH dX4_leastOf_9 ?_
    refine ⟨rfl, ?_⟩
    unfold loS
    split <;> first | rfl | (exfalso; omega)

abbrev rm_X4_mostOf : Room := { frames := 0, cells := 0, slots := 0, locals := 0 }
set_option maxRecDepth 100000 in
theorem c_X4_mostOf (l : Launch) (D : zD) (base : Nat) (s : Int) (hs : rg s) : Ct l yX4_mostOf wsX4_mostOf rm_X4_mostOf D base [.int (J s)] (fun _ => True) (PI (fun H v H1 => H = H1 ∧ hiS s = v)) := by
  refine Ct.of (own := RX4) (cc := cX4_mostOf) (maxL := 1) (by decide +kernel) rfl (Nat.le_of_ble_eq_true rfl) rfl ?_
  intro K H X R hH hnm hP
  show G K 0 0 H 0 [(0, .int (J s))] []
  refine g_iload_n (pc := 0) (pl := 0) X dX4_mostOf_0 rfl ?_
  refine g_if_ne (pc := 1) X 9 dX4_mostOf_1 (by decide) (by omega) (fun c1 => ?_) (fun c1 => ?_)
  · skip
    refine g_iload_n (pc := 9) (pl := 0) X dX4_mostOf_9 rfl ?_
    refine g_iconst (pc := 10) X dX4_mostOf_10 ?_
    refine g_icmp_ne (pc := 11) X 19 dX4_mostOf_11 (by decide) (by omega) (by omega) (fun c11 => ?_) (fun c11 => ?_)
    · skip
      refine g_bipush (pc := 19) X dX4_mostOf_19 (by decide +kernel) ?_
      refine g_iret (pc := 21) X R hH dX4_mostOf_21 ?_
      refine ⟨rfl, ?_⟩
      unfold hiS
      (repeat' split) <;> first | rfl | (exfalso; omega)
    · skip
      refine g_bipush (pc := 14) X dX4_mostOf_14 (by decide +kernel) ?_
      refine g_goto (pc := 16) X 21 dX4_mostOf_16 (by decide) ?_
      refine g_iret (pc := 21) X R hH dX4_mostOf_21 ?_
      refine ⟨rfl, ?_⟩
      unfold hiS
      (repeat' split) <;> first | rfl | (exfalso; omega)
  · skip
    refine g_bipush (pc := 4) X dX4_mostOf_4 (by decide +kernel) ?_
    refine g_goto (pc := 6) X 21 dX4_mostOf_6 (by decide) ?_
    refine g_iret (pc := 21) X R hH dX4_mostOf_21 ?_
    refine ⟨rfl, ?_⟩
    unfold hiS
    (repeat' split) <;> first | rfl | (exfalso; omega)

abbrev rm_X4_changeSetting : Room := { frames := 2, cells := 0, slots := 0, locals := 43 }
theorem zF_X4_changeSetting_14 : zF RX4 wsX4_changeSetting 4 0 14 := ⟨RX4, TX4, 6, rfl, by decide +kernel, by decide, by decide +kernel⟩
theorem cs_X4_changeSetting_58 : zCV RX4 wsX4_changeSetting 58 6 yX6_has wsX6_has cX6_has 2 (some .boolean) rm_X4_changeSetting rm_X6_has 1 := ⟨_, _, gX4_changeSetting_X6_has, rfl, ⟨by decide +kernel, by decide +kernel, by decide +kernel⟩, ⟨Nat.le_of_ble_eq_true rfl, Nat.le_of_ble_eq_true rfl⟩, rfl, rfl⟩
theorem cs_X4_changeSetting_62 : zCJ RX4 wsX4_changeSetting 62 yX4_leastOf wsX4_leastOf cX4_leastOf 1 (some .int) rm_X4_changeSetting rm_X4_leastOf 1 := ⟨_, gX4_changeSetting_X4_leastOf, rfl, ⟨by decide +kernel, by decide +kernel, by decide +kernel⟩, ⟨Nat.le_of_ble_eq_true rfl, Nat.le_of_ble_eq_true rfl⟩⟩
theorem cs_X4_changeSetting_66 : zCJ RX4 wsX4_changeSetting 66 yX4_mostOf wsX4_mostOf cX4_mostOf 1 (some .int) rm_X4_changeSetting rm_X4_mostOf 1 := ⟨_, gX4_changeSetting_X4_mostOf, rfl, ⟨by decide +kernel, by decide +kernel, by decide +kernel⟩, ⟨Nat.le_of_ble_eq_true rfl, Nat.le_of_ble_eq_true rfl⟩⟩
theorem cs_X4_changeSetting_69 : zCV RX4 wsX4_changeSetting 69 6 yX6_item wsX6_item cX6_item 2 (some .int) rm_X4_changeSetting rm_X6_item 1 := ⟨_, _, gX4_changeSetting_X6_item, rfl, ⟨by decide +kernel, by decide +kernel, by decide +kernel⟩, ⟨Nat.le_of_ble_eq_true rfl, Nat.le_of_ble_eq_true rfl⟩, rfl, rfl⟩
theorem cs_X4_changeSetting_72 : zCV RX4 wsX4_changeSetting 72 6 yX6_replace wsX6_replace cX6_replace 3 none rm_X4_changeSetting rm_X6_replace 2 := ⟨_, _, gX4_changeSetting_X6_replace, rfl, ⟨by decide +kernel, by decide +kernel, by decide +kernel⟩, ⟨Nat.le_of_ble_eq_true rfl, Nat.le_of_ble_eq_true rfl⟩, rfl, rfl⟩
set_option maxRecDepth 100000 in
theorem c_X4_changeSetting (l : Launch) (D : zD) (base : Nat) (q : Nat) (g : Int → Int) (x v : Int) (hq : base ≤ q) (hI : PInv g) (hx : rg x) (hv : rg v) : Ct l yX4_changeSetting wsX4_changeSetting rm_X4_changeSetting D base [.ref q, .int (J x), .int (J v)] (fun H => PageAt D q g H) (PI (fun H r H1 => setR g x v = r ∧ PageAt D q (setG g x v) H1 ∧ Fr (Iv q (q + 121)) 0 H H1)) := by
  refine Ct.of (own := RX4) (cc := cX4_changeSetting) (maxL := 4) (by decide +kernel) rfl (Nat.le_of_ble_eq_true rfl) rfl ?_
  intro K H X R hH hnm hP
  show G K 0 0 H 0 [(0, .ref q), (1, .int (J x)), (2, .int (J v))] []
  have hPg := hP
  obtain ⟨hO, hS, hL, hW, hN, hQ, hk0, hk1⟩ := hP
  have hnum := hI.nums
  refine g_aload_n (pc := 0) (pl := 0) X dX4_changeSetting_0 rfl ?_
  refine g_getf (pc := 1) X zF_X4_changeSetting_14 hO rfl dX4_changeSetting_1 ?_
  refine g_iload_n (pc := 4) (pl := 1) X dX4_changeSetting_4 rfl ?_
  obtain ⟨hRO, -⟩ := id hS
  refine gVi (pc := 5) (n2 := 0) (k2 := 0) X cs_X4_changeSetting_58 (c_X6_has (zl K) D base (q + 1) 3 3 (fun i => g (2 + i)) x (by omega)) rfl hRO (by omega) hS rfl ⟨Nat.le_of_ble_eq_true rfl, Nat.le_of_ble_eq_true rfl⟩ dX4_changeSetting_5 (Nat.le_of_ble_eq_true rfl) rfl rfl (fun v5 H1 hp5 hs5 => ?_)
  obtain ⟨rfl, rfl⟩ := hp5
  refine g_if_eq (pc := 8) X 27 dX4_changeSetting_8 (by decide) (zbr _) (fun c8 => ?_) (fun c8 => ?_)
  · skip
    replace c8 := zb0 c8
    refine g_bipush (pc := 27) X dX4_changeSetting_27 (by decide +kernel) ?_
    refine g_iret (pc := 29) X R hH dX4_changeSetting_29 ?_
    have hno : ¬ (0 ≤ x ∧ x < 3 ∧ loS x ≤ v ∧ v ≤ hiS x) := by omega
    exact ⟨if_neg hno, by rw [show setG g x v = g from if_neg hno]; exact hPg, Fr.refl _ _⟩
  · skip
    replace c8 := zb1 c8
    refine g_iload_n (pc := 11) (pl := 2) X dX4_changeSetting_11 rfl ?_
    refine g_iload_n (pc := 12) (pl := 1) X dX4_changeSetting_12 rfl ?_
    refine gJi (pc := 13) (n2 := 0) (k2 := 0) X cs_X4_changeSetting_62 (c_X4_leastOf (zl K) D base x hx) rfl (by have := hO.lt; omega) trivial rfl ⟨Nat.le_of_ble_eq_true rfl, Nat.le_of_ble_eq_true rfl⟩ dX4_changeSetting_13 (Nat.le_of_ble_eq_true rfl) rfl rfl (fun v13 H1 hp13 hs13 => ?_)
    obtain ⟨rfl, rfl⟩ := hp13
    have hlo : 0 ≤ loS x ∧ loS x ≤ 1 := by unfold loS; split <;> omega
    refine g_icmp_lt (pc := 16) X 27 dX4_changeSetting_16 (by decide) (by omega) (by omega) (fun c16 => ?_) (fun c16 => ?_)
    · skip
      refine g_bipush (pc := 27) X dX4_changeSetting_27 (by decide +kernel) ?_
      refine g_iret (pc := 29) X R hH dX4_changeSetting_29 ?_
      have hno : ¬ (0 ≤ x ∧ x < 3 ∧ loS x ≤ v ∧ v ≤ hiS x) := by omega
      exact ⟨if_neg hno, by rw [show setG g x v = g from if_neg hno]; exact hPg, Fr.refl _ _⟩
    · skip
      refine g_iload_n (pc := 19) (pl := 2) X dX4_changeSetting_19 rfl ?_
      refine g_iload_n (pc := 20) (pl := 1) X dX4_changeSetting_20 rfl ?_
      refine gJi (pc := 21) (n2 := 0) (k2 := 0) X cs_X4_changeSetting_66 (c_X4_mostOf (zl K) D base x hx) rfl (by have := hO.lt; omega) trivial rfl ⟨Nat.le_of_ble_eq_true rfl, Nat.le_of_ble_eq_true rfl⟩ dX4_changeSetting_21 (Nat.le_of_ble_eq_true rfl) rfl rfl (fun v21 H1 hp21 hs21 => ?_)
      obtain ⟨rfl, rfl⟩ := hp21
      have hhi : 0 ≤ hiS x ∧ hiS x ≤ 60 := by unfold hiS; (repeat' split) <;> omega
      refine g_icmp_le (pc := 24) X 30 dX4_changeSetting_24 (by decide) (by omega) (by omega) (fun c24 => ?_) (fun c24 => ?_)
      · skip
        refine g_aload_n (pc := 30) (pl := 0) X dX4_changeSetting_30 rfl ?_
        refine g_getf (pc := 31) X zF_X4_changeSetting_14 hO rfl dX4_changeSetting_31 ?_
        refine g_iload_n (pc := 34) (pl := 1) X dX4_changeSetting_34 rfl ?_
        obtain ⟨hRO, -⟩ := id hS
        refine gVi (pc := 35) (n2 := 0) (k2 := 0) X cs_X4_changeSetting_69 (c_X6_item (zl K) D base (q + 1) 3 3 (fun i => g (2 + i)) x (by omega)) rfl hRO (by omega) hS rfl ⟨Nat.le_of_ble_eq_true rfl, Nat.le_of_ble_eq_true rfl⟩ dX4_changeSetting_35 (Nat.le_of_ble_eq_true rfl) rfl rfl (fun v35 H1 hp35 hs35 => ?_)
        obtain ⟨rfl, rfl⟩ := hp35
        refine g_istore_n (pc := 38) (lv' := [(3, _), (0, _), (1, _), (2, _)]) X dX4_changeSetting_38 (by decide) rfl ?_
        refine g_aload_n (pc := 39) (pl := 1) X dX4_changeSetting_39 rfl ?_
        refine g_getf (pc := 40) X zF_X4_changeSetting_14 hO rfl dX4_changeSetting_40 ?_
        refine g_iload_n (pc := 43) (pl := 2) X dX4_changeSetting_43 rfl ?_
        refine g_iload_n (pc := 44) (pl := 3) X dX4_changeSetting_44 rfl ?_
        obtain ⟨hRO, -⟩ := id hS
        refine gVv (pc := 45) (n2 := 0) (k2 := 0) X cs_X4_changeSetting_72 (c_X6_replace (zl K) D base (q + 1) 3 3 (fun i => g (2 + i)) x v (by omega) hx) rfl hRO (by omega) hS rfl ⟨Nat.le_of_ble_eq_true rfl, Nat.le_of_ble_eq_true rfl⟩ dX4_changeSetting_45 (Nat.le_of_ble_eq_true rfl) rfl rfl (fun H1 hp45 hs45 => ?_)
        obtain ⟨hSn, hfa⟩ := hp45
        replace hO := hO.fr hfa (by omega)
        replace hL := hL.fr hfa (by omega)
        replace hW := hW.fr hfa (by omega)
        replace hN := hN.fr hfa (by omega)
        replace hQ := hQ.fr hfa (by omega)
        replace hS := hSn
        clear hSn
        refine g_iload_n (pc := 48) (pl := 0) X dX4_changeSetting_48 rfl ?_
        refine g_iret (pc := 49) X R hH dX4_changeSetting_49 ?_
        have hyes : 0 ≤ x ∧ x < 3 ∧ loS x ≤ v ∧ v ≤ hiS x := by omega
        refine ⟨?_, ?_, (hfa.wide (by omega) (by omega))⟩
        · rw [show setR g x v = g (2 + x) from if_pos hyes]; exact (if_pos (by omega)).symm
        · rw [show setG g x v = up g (2 + x) v from if_pos hyes]
          have e0 : ∀ j : Int, ¬ j = 2 + x → up g (2 + x) v j = g j := fun j h => if_neg h
          exact ⟨by rw [e0 1 (by omega)]; exact hO, hS.congr (fun i h0 h1 => by simp only [up]; (repeat' split) <;> first | rfl | (exfalso; omega)), by rw [e0 0 (by omega)]; exact hL.congr (fun i h0 h1 => (e0 _ (by omega)).symm), by rw [e0 0 (by omega)]; exact hW.congr (fun i h0 h1 => (e0 _ (by omega)).symm), hN.hi (e0 1 (by omega)).symm (fun j h => (e0 j (by omega)).symm), hQ, by rw [e0 1 (by omega)]; omega, by rw [e0 1 (by omega)]; omega⟩
      · skip
        refine g_bipush (pc := 27) X dX4_changeSetting_27 (by decide +kernel) ?_
        refine g_iret (pc := 29) X R hH dX4_changeSetting_29 ?_
        have hno : ¬ (0 ≤ x ∧ x < 3 ∧ loS x ≤ v ∧ v ≤ hiS x) := by omega
        exact ⟨if_neg hno, by rw [show setG g x v = g from if_neg hno]; exact hPg, Fr.refl _ _⟩

abbrev rm_X4_writeLetter : Room := { frames := 2, cells := 0, slots := 0, locals := 82 }
theorem zF_X4_writeLetter_20 : zF RX4 wsX4_writeLetter 4 1 20 := ⟨RX4, TX4, 6, rfl, by decide +kernel, by decide, by decide +kernel⟩
theorem zF_X4_writeLetter_76 : zF RX4 wsX4_writeLetter 6 1 76 := ⟨RX6, TX6, 2, rfl, by decide +kernel, by decide, by decide +kernel⟩
theorem cs_X4_writeLetter_79 : zCV RX4 wsX4_writeLetter 79 6 yX6_insert wsX6_insert cX6_insert 3 none rm_X4_writeLetter rm_X6_insert 2 := ⟨_, _, gX4_writeLetter_X6_insert, rfl, ⟨by decide +kernel, by decide +kernel, by decide +kernel⟩, ⟨Nat.le_of_ble_eq_true rfl, Nat.le_of_ble_eq_true rfl⟩, rfl, rfl⟩
theorem zF_X4_writeLetter_23 : zF RX4 wsX4_writeLetter 4 2 23 := ⟨RX4, TX4, 6, rfl, by decide +kernel, by decide, by decide +kernel⟩
set_option maxRecDepth 100000 in
theorem c_X4_writeLetter (l : Launch) (D : zD) (base : Nat) (q : Nat) (g : Int → Int) (p c : Int) (hq : base ≤ q) (hI : PInv g) (hp : rg p) (hc : rg c) : Ct l yX4_writeLetter wsX4_writeLetter rm_X4_writeLetter D base [.ref q, .int (J p), .int (J c)] (fun H => PageAt D q g H) (PI (fun H v H1 => wrR g p c = v ∧ PageAt D q (wrG g p c) H1 ∧ Fr (Iv q (q + 121)) 0 H H1)) := by
  refine Ct.of (own := RX4) (cc := cX4_writeLetter) (maxL := 3) (by decide +kernel) rfl (Nat.le_of_ble_eq_true rfl) rfl ?_
  intro K H X R hH hnm hP
  show G K 0 0 H 0 [(0, .ref q), (1, .int (J p)), (2, .int (J c))] []
  have hPg := hP
  obtain ⟨hO, hS, hL, hW, hN, hQ, hk0, hk1⟩ := hP
  have hnum := hI.nums
  refine g_iload_n (pc := 0) (pl := 1) X dX4_writeLetter_0 rfl ?_
  refine g_if_lt (pc := 1) X 15 dX4_writeLetter_1 (by decide) (by omega) (fun c1 => ?_) (fun c1 => ?_)
  · skip
    refine g_iconst (pc := 15) X dX4_writeLetter_15 ?_
    refine g_iret (pc := 16) X R hH dX4_writeLetter_16 ?_
    have hr : wrR g p c = (-1) := by unfold wrR; (repeat' split) <;> first | rfl | (exfalso; omega)
    refine ⟨hr, ?_, Fr.refl _ _⟩
    rw [show wrG g p c = g from if_pos (by rw [hr]; decide)]
    exact hPg
  · skip
    refine g_iload_n (pc := 4) (pl := 1) X dX4_writeLetter_4 rfl ?_
    refine g_aload_n (pc := 5) (pl := 0) X dX4_writeLetter_5 rfl ?_
    refine g_getf (pc := 6) X zF_X4_writeLetter_20 hO rfl dX4_writeLetter_6 ?_
    obtain ⟨hRO, -⟩ := id hL
    refine g_getf (pc := 9) X zF_X4_writeLetter_76 hRO rfl dX4_writeLetter_9 ?_
    refine g_icmp_le (pc := 12) X 17 dX4_writeLetter_12 (by decide) (by omega) (by omega) (fun c12 => ?_) (fun c12 => ?_)
    · skip
      refine g_iload_n (pc := 17) (pl := 2) X dX4_writeLetter_17 rfl ?_
      refine g_if_lt (pc := 18) X 27 dX4_writeLetter_18 (by decide) (by omega) (fun c18 => ?_) (fun c18 => ?_)
      · skip
        refine g_bipush (pc := 27) X dX4_writeLetter_27 (by decide +kernel) ?_
        refine g_iret (pc := 29) X R hH dX4_writeLetter_29 ?_
        have hr : wrR g p c = (-2) := by unfold wrR; (repeat' split) <;> first | rfl | (exfalso; omega)
        refine ⟨hr, ?_, Fr.refl _ _⟩
        rw [show wrG g p c = g from if_pos (by rw [hr]; decide)]
        exact hPg
      · skip
        refine g_iload_n (pc := 21) (pl := 2) X dX4_writeLetter_21 rfl ?_
        refine g_bipush (pc := 22) X dX4_writeLetter_22 (by decide +kernel) ?_
        refine g_icmp_lt (pc := 24) X 30 dX4_writeLetter_24 (by decide) (by omega) (by omega) (fun c24 => ?_) (fun c24 => ?_)
        · skip
          refine g_aload_n (pc := 30) (pl := 0) X dX4_writeLetter_30 rfl ?_
          refine g_getf (pc := 31) X zF_X4_writeLetter_20 hO rfl dX4_writeLetter_31 ?_
          obtain ⟨hRO, -⟩ := id hL
          refine g_getf (pc := 34) X zF_X4_writeLetter_76 hRO rfl dX4_writeLetter_34 ?_
          refine g_bipush (pc := 37) X dX4_writeLetter_37 (by decide +kernel) ?_
          refine g_icmp_lt (pc := 39) X 45 dX4_writeLetter_39 (by decide) (by omega) (by omega) (fun c39 => ?_) (fun c39 => ?_)
          · skip
            refine g_aload_n (pc := 45) (pl := 0) X dX4_writeLetter_45 rfl ?_
            refine g_getf (pc := 46) X zF_X4_writeLetter_20 hO rfl dX4_writeLetter_46 ?_
            refine g_iload_n (pc := 49) (pl := 1) X dX4_writeLetter_49 rfl ?_
            refine g_iload_n (pc := 50) (pl := 2) X dX4_writeLetter_50 rfl ?_
            obtain ⟨hRO, -⟩ := id hL
            refine gVv (pc := 51) (n2 := 0) (k2 := 0) X cs_X4_writeLetter_79 (c_X6_insert (zl K) D base (q + 3) 60 (g 0) (LT g) p c (by omega) (by omega)) rfl hRO (by omega) hL rfl ⟨Nat.le_of_ble_eq_true rfl, Nat.le_of_ble_eq_true rfl⟩ dX4_writeLetter_51 (Nat.le_of_ble_eq_true rfl) rfl rfl (fun H1 hp51 hs51 => ?_)
            obtain ⟨hLn, hfa⟩ := hp51
            replace hO := hO.fr hfa (by omega)
            replace hS := hS.fr hfa (by omega)
            replace hW := hW.fr hfa (by omega)
            replace hN := hN.fr hfa (by omega)
            replace hQ := hQ.fr hfa (by omega)
            replace hL := hLn
            clear hLn
            refine g_aload_n (pc := 54) (pl := 0) X dX4_writeLetter_54 rfl ?_
            refine g_getf (pc := 55) X zF_X4_writeLetter_23 hO rfl dX4_writeLetter_55 ?_
            refine g_iload_n (pc := 58) (pl := 1) X dX4_writeLetter_58 rfl ?_
            refine g_iconst (pc := 59) X dX4_writeLetter_59 ?_
            obtain ⟨hRO, -⟩ := id hW
            refine gVv (pc := 60) (n2 := 0) (k2 := 0) X cs_X4_writeLetter_79 (c_X6_insert (zl K) D base (q + 5) 60 (g 0) (OW g) p 0 (by omega) (by omega)) rfl hRO (by omega) hW rfl ⟨Nat.le_of_ble_eq_true rfl, Nat.le_of_ble_eq_true rfl⟩ dX4_writeLetter_60 (Nat.le_of_ble_eq_true rfl) rfl rfl (fun H2 hp60 hs60 => ?_)
            obtain ⟨hWn, hfb⟩ := hp60
            replace hO := hO.fr hfb (by omega)
            replace hS := hS.fr hfb (by omega)
            replace hL := hL.fr hfb (by omega)
            replace hN := hN.fr hfb (by omega)
            replace hQ := hQ.fr hfb (by omega)
            replace hW := hWn
            clear hWn
            refine g_aload_n (pc := 63) (pl := 0) X dX4_writeLetter_63 rfl ?_
            refine g_getf (pc := 64) X zF_X4_writeLetter_20 hO rfl dX4_writeLetter_64 ?_
            obtain ⟨hRO, -⟩ := id hL
            refine g_getf (pc := 67) X zF_X4_writeLetter_76 hRO rfl dX4_writeLetter_67 ?_
            refine g_iret (pc := 70) X R hH dX4_writeLetter_70 ?_
            have hr : wrR g p c = g 0 + 1 := by unfold wrR; (repeat' split) <;> first | rfl | (exfalso; omega)
            refine ⟨hr, ?_, (Fr.trans (hfa.wide (by omega) (by omega)) (hfb.wide (by omega) (by omega)))⟩
            rw [show wrG g p c = cmG g p c 0 from if_neg (by rw [hr]; omega)]
            have z0 : cmG g p c 0 0 = g 0 + 1 := rfl
            have z1 : cmG g p c 0 1 = g 1 := rfl
            have zl : ∀ i : Int, 0 ≤ i → i < 60 → cmG g p c 0 (5 + i) = ins (LT g) p c i := fun i h0 h1 => by unfold cmG; rw [if_neg (by omega), if_pos (by omega), show 5 + i - 5 = i by omega]
            have zw : ∀ i : Int, 0 ≤ i → i < 60 → cmG g p c 0 (65 + i) = ins (OW g) p 0 i := fun i h0 h1 => by unfold cmG; rw [if_neg (by omega), if_neg (by omega), if_pos (by omega), show 65 + i - 65 = i by omega]
            have zh : ∀ j : Int, 125 ≤ j → cmG g p c 0 j = g j := fun j h => by unfold cmG; rw [if_neg (by omega), if_neg (by omega), if_neg (by omega)]
            have zs : ∀ i : Int, 0 ≤ i → i < 3 → cmG g p c 0 (2 + i) = g (2 + i) := fun i h0 h1 => by unfold cmG; rw [if_neg (by omega), if_neg (by omega), if_neg (by omega)]
            exact ⟨by rw [z1]; exact hO, hS.congr (fun i h0 h1 => (zs i h0 h1).symm), by rw [z0]; exact hL.congr (fun i h0 h1 => (zl i h0 (by omega)).symm), by rw [z0]; exact hW.congr (fun i h0 h1 => (zw i h0 (by omega)).symm), hN.hi z1.symm (fun j h => (zh j h).symm), hQ, by rw [z1]; omega, by rw [z1]; omega⟩
          · skip
            refine g_bipush (pc := 42) X dX4_writeLetter_42 (by decide +kernel) ?_
            refine g_iret (pc := 44) X R hH dX4_writeLetter_44 ?_
            have hr : wrR g p c = (-4) := by unfold wrR; (repeat' split) <;> first | rfl | (exfalso; omega)
            refine ⟨hr, ?_, Fr.refl _ _⟩
            rw [show wrG g p c = g from if_pos (by rw [hr]; decide)]
            exact hPg
        · skip
          refine g_bipush (pc := 27) X dX4_writeLetter_27 (by decide +kernel) ?_
          refine g_iret (pc := 29) X R hH dX4_writeLetter_29 ?_
          have hr : wrR g p c = (-2) := by unfold wrR; (repeat' split) <;> first | rfl | (exfalso; omega)
          refine ⟨hr, ?_, Fr.refl _ _⟩
          rw [show wrG g p c = g from if_pos (by rw [hr]; decide)]
          exact hPg
    · skip
      refine g_iconst (pc := 15) X dX4_writeLetter_15 ?_
      refine g_iret (pc := 16) X R hH dX4_writeLetter_16 ?_
      have hr : wrR g p c = (-1) := by unfold wrR; (repeat' split) <;> first | rfl | (exfalso; omega)
      refine ⟨hr, ?_, Fr.refl _ _⟩
      rw [show wrG g p c = g from if_pos (by rw [hr]; decide)]
      exact hPg

abbrev rm_X4_orphanedBy : Room := { frames := 2, cells := 0, slots := 0, locals := 43 }
theorem cs_X4_orphanedBy_94 : zCV RX4 wsX4_orphanedBy 94 4 yX4_passageError wsX4_passageError cX4_passageError 3 (some .int) rm_X4_orphanedBy rm_X4_passageError 2 := ⟨_, _, gX4_orphanedBy_X4_passageError, rfl, ⟨by decide +kernel, by decide +kernel, by decide +kernel⟩, ⟨Nat.le_of_ble_eq_true rfl, Nat.le_of_ble_eq_true rfl⟩, rfl, rfl⟩
theorem zF_X4_orphanedBy_23 : zF RX4 wsX4_orphanedBy 4 2 23 := ⟨RX4, TX4, 6, rfl, by decide +kernel, by decide, by decide +kernel⟩
theorem zF_X4_orphanedBy_76 : zF RX4 wsX4_orphanedBy 6 1 76 := ⟨RX6, TX6, 2, rfl, by decide +kernel, by decide, by decide +kernel⟩
theorem cs_X4_orphanedBy_69 : zCV RX4 wsX4_orphanedBy 69 6 yX6_item wsX6_item cX6_item 2 (some .int) rm_X4_orphanedBy rm_X6_item 1 := ⟨_, _, gX4_orphanedBy_X6_item, rfl, ⟨by decide +kernel, by decide +kernel, by decide +kernel⟩, ⟨Nat.le_of_ble_eq_true rfl, Nat.le_of_ble_eq_true rfl⟩, rfl, rfl⟩
set_option maxRecDepth 100000 in
theorem c_X4_orphanedBy (l : Launch) (D : zD) (base : Nat) (q : Nat) (g : Int → Int) (a b : Int) (hq : base ≤ q) (hI : PInv g) (ha : rg a) (hb : rg b) : Ct l yX4_orphanedBy wsX4_orphanedBy rm_X4_orphanedBy D base [.ref q, .int (J a), .int (J b)] (fun H => PageAt D q g H) (PI (fun H v H1 => H = H1 ∧ orR g a b = v)) := by
  refine Ct.of (own := RX4) (cc := cX4_orphanedBy) (maxL := 7) (by decide +kernel) rfl (Nat.le_of_ble_eq_true rfl) rfl ?_
  intro K H X R hH hnm hP
  show G K 0 0 H 0 [(0, .ref q), (1, .int (J a)), (2, .int (J b))] []
  have hPg := hP
  obtain ⟨hO, hS, hL, hW, hN, hQ, hk0, hk1⟩ := hP
  have hnum := hI.nums
  refine g_aload_n (pc := 0) (pl := 0) X dX4_orphanedBy_0 rfl ?_
  refine g_iload_n (pc := 1) (pl := 1) X dX4_orphanedBy_1 rfl ?_
  refine g_iload_n (pc := 2) (pl := 2) X dX4_orphanedBy_2 rfl ?_
  refine gVi (pc := 3) (n2 := 0) (k2 := 0) X cs_X4_orphanedBy_94 (c_X4_passageError (zl K) D base q g a b hq ha hb) rfl hO (by omega) ⟨hO, hL⟩ rfl ⟨Nat.le_of_ble_eq_true rfl, Nat.le_of_ble_eq_true rfl⟩ dX4_orphanedBy_3 (Nat.le_of_ble_eq_true rfl) rfl rfl (fun v3 H1 hp3 hs3 => ?_)
  obtain ⟨rfl, rfl⟩ := hp3
  have hpe := perr_bd g a b
  refine g_istore_n (pc := 6) (lv' := [(3, _), (0, _), (1, _), (2, _)]) X dX4_orphanedBy_6 (by decide) rfl ?_
  refine g_iload_n (pc := 7) (pl := 0) X dX4_orphanedBy_7 rfl ?_
  refine g_if_ge (pc := 8) X 13 dX4_orphanedBy_8 (by decide) (by omega) (fun c8 => ?_) (fun c8 => ?_)
  · skip
    have hab := perr_ok (g := g) (a := a) (b := b) (by omega)
    refine g_iconst (pc := 13) X dX4_orphanedBy_13 ?_
    refine g_istore (pc := 14) (lv' := [(4, _), (3, _), (0, _), (1, _), (2, _)]) X dX4_orphanedBy_14 (by decide) rfl ?_
    refine g_iconst (pc := 16) X dX4_orphanedBy_16 ?_
    refine g_istore (pc := 17) (lv' := [(5, _), (4, _), (3, _), (0, _), (1, _), (2, _)]) X dX4_orphanedBy_17 (by decide) rfl ?_
    refine g_iconst (pc := 19) X dX4_orphanedBy_19 ?_
    refine g_istore (pc := 20) (lv' := [(6, _), (5, _), (4, _), (3, _), (0, _), (1, _), (2, _)]) X dX4_orphanedBy_20 (by decide) rfl ?_
    have hL22 : ∀ (fu : Nat) (n : Nat) (zi z1 z2 : Int), (g 0).toNat - n < fu → ((n : Int) ≤ g 0) → (zi = (n : Int)) → (z1 = ((orI g a b n).1 : Int)) → (z2 = ((orI g a b n).2 : Int)) → G K 0 0 H 22 [(0, .ref q), (1, .int (J a)), (2, .int (J b)), (4, .int (J z1)), (5, .int (J z2)), (6, .int (J zi))] [] := by
      intro fu
      induction fu with
      | zero => intro n zi z1 z2 hm; exact absurd hm (Nat.not_lt_zero _)
      | succ fu ih22 =>
        intro n zi z1 z2 hm h1 he hz hz2
        subst he
        have hob := orI_bd (g := g) a b (k := n) (fun i h0 h1 => hI.own i h0 (by omega))
        have hown := fun (h : (n : Int) < g 0) => hI.own (n : Int) (by omega) h
        refine g_iload (pc := 22) (pl := 5) X dX4_orphanedBy_22 rfl ?_
        refine g_aload_n (pc := 24) (pl := 0) X dX4_orphanedBy_24 rfl ?_
        refine g_getf (pc := 25) X zF_X4_orphanedBy_23 hO rfl dX4_orphanedBy_25 ?_
        obtain ⟨hRO, -⟩ := id hW
        refine g_getf (pc := 28) X zF_X4_orphanedBy_76 hRO rfl dX4_orphanedBy_28 ?_
        refine g_icmp_ge (pc := 31) X 83 dX4_orphanedBy_31 (by decide) (by omega) (by omega) (fun c31 => ?_) (fun c31 => ?_)
        · skip
          refine g_iload (pc := 83) (pl := 3) X dX4_orphanedBy_83 rfl ?_
          refine g_iload (pc := 85) (pl := 4) X dX4_orphanedBy_85 rfl ?_
          refine g_iconst (pc := 87) X dX4_orphanedBy_87 ?_
          refine g_ixor (pc := 88) (z := J z2 ^^^ J (-1)) X dX4_orphanedBy_88 rfl ?_
          have en : (g 0).toNat = n := by omega
          refine g_iand (pc := 89) (z := J (ors g a b)) X dX4_orphanedBy_89 (by rw [J_andn (by omega) (by omega)]; unfold ors; rw [en, hz, hz2, Int.toNat_natCast, Int.toNat_natCast]) ?_
          refine g_iret (pc := 90) X R hH dX4_orphanedBy_90 ?_
          exact ⟨rfl, if_neg (by omega)⟩
        · skip
          refine g_iload (pc := 34) (pl := 5) X dX4_orphanedBy_34 rfl ?_
          refine g_iload_n (pc := 36) (pl := 1) X dX4_orphanedBy_36 rfl ?_
          refine g_icmp_lt (pc := 37) X 63 dX4_orphanedBy_37 (by decide) (by omega) (by omega) (fun c37 => ?_) (fun c37 => ?_)
          · skip
            refine g_iload (pc := 63) (pl := 4) X dX4_orphanedBy_63 rfl ?_
            refine g_aload_n (pc := 65) (pl := 0) X dX4_orphanedBy_65 rfl ?_
            refine g_getf (pc := 66) X zF_X4_orphanedBy_23 hO rfl dX4_orphanedBy_66 ?_
            refine g_iload (pc := 69) (pl := 5) X dX4_orphanedBy_69 rfl ?_
            obtain ⟨hRO, -⟩ := id hW
            refine gVi (pc := 71) (n2 := 0) (k2 := 0) X cs_X4_orphanedBy_69 (c_X6_item (zl K) D base (q + 5) 60 (g 0) (OW g) (n : Int) (by omega)) rfl hRO (by omega) hW rfl ⟨Nat.le_of_ble_eq_true rfl, Nat.le_of_ble_eq_true rfl⟩ dX4_orphanedBy_71 (Nat.le_of_ble_eq_true rfl) rfl rfl (fun v71 H1 hp71 hs71 => ?_)
            obtain ⟨rfl, rfl⟩ := hp71
            have hit : itm (g 0) (OW g) (n : Int) = OW g (n : Int) := if_pos (by omega)
            rw [hit]
            refine g_ior (pc := 74) (z := J (((orI g a b n).2 ||| (OW g (n : Int)).toNat : Nat) : Int)) X dX4_orphanedBy_74 (by rw [hz2, J_or (by omega) (by omega), Int.toNat_natCast]) ?_
            refine g_istore (pc := 75) (lv' := [(5, _), (0, _), (1, _), (2, _), (4, _), (6, _)]) X dX4_orphanedBy_75 (by decide) rfl ?_
            refine g_iinc (pc := 77) (pl := 5) (x := (n : Int)) (lv' := [(6, _), (5, _), (0, _), (1, _), (2, _), (4, _)]) X dX4_orphanedBy_77 rfl (by decide) rfl ?_
            refine g_goto (pc := 80) X 22 dX4_orphanedBy_80 (by decide) ?_
            refine G.pick [2, 3, 4, 5, 1, 0] (lv' := [(0, _), (1, _), (2, _), (4, _), (5, _), (6, _)]) rfl ?_
            exact ih22 (n + 1) _ _ _ (by omega) (by omega) (by omega) (by first | (rw [orI_in ⟨by omega, by omega⟩]; done) | (rw [orI_out (by omega)]; exact hz)) (by first | (rw [orI_out (by omega)]; done) | (rw [orI_in ⟨by omega, by omega⟩]; exact hz2))
          · skip
            refine g_iload (pc := 40) (pl := 5) X dX4_orphanedBy_40 rfl ?_
            refine g_iload_n (pc := 42) (pl := 2) X dX4_orphanedBy_42 rfl ?_
            refine g_icmp_gt (pc := 43) X 63 dX4_orphanedBy_43 (by decide) (by omega) (by omega) (fun c43 => ?_) (fun c43 => ?_)
            · skip
              refine g_iload (pc := 63) (pl := 4) X dX4_orphanedBy_63 rfl ?_
              refine g_aload_n (pc := 65) (pl := 0) X dX4_orphanedBy_65 rfl ?_
              refine g_getf (pc := 66) X zF_X4_orphanedBy_23 hO rfl dX4_orphanedBy_66 ?_
              refine g_iload (pc := 69) (pl := 5) X dX4_orphanedBy_69 rfl ?_
              obtain ⟨hRO, -⟩ := id hW
              refine gVi (pc := 71) (n2 := 0) (k2 := 0) X cs_X4_orphanedBy_69 (c_X6_item (zl K) D base (q + 5) 60 (g 0) (OW g) (n : Int) (by omega)) rfl hRO (by omega) hW rfl ⟨Nat.le_of_ble_eq_true rfl, Nat.le_of_ble_eq_true rfl⟩ dX4_orphanedBy_71 (Nat.le_of_ble_eq_true rfl) rfl rfl (fun v71 H1 hp71 hs71 => ?_)
              obtain ⟨rfl, rfl⟩ := hp71
              have hit : itm (g 0) (OW g) (n : Int) = OW g (n : Int) := if_pos (by omega)
              rw [hit]
              refine g_ior (pc := 74) (z := J (((orI g a b n).2 ||| (OW g (n : Int)).toNat : Nat) : Int)) X dX4_orphanedBy_74 (by rw [hz2, J_or (by omega) (by omega), Int.toNat_natCast]) ?_
              refine g_istore (pc := 75) (lv' := [(5, _), (0, _), (1, _), (2, _), (4, _), (6, _)]) X dX4_orphanedBy_75 (by decide) rfl ?_
              refine g_iinc (pc := 77) (pl := 5) (x := (n : Int)) (lv' := [(6, _), (5, _), (0, _), (1, _), (2, _), (4, _)]) X dX4_orphanedBy_77 rfl (by decide) rfl ?_
              refine g_goto (pc := 80) X 22 dX4_orphanedBy_80 (by decide) ?_
              refine G.pick [2, 3, 4, 5, 1, 0] (lv' := [(0, _), (1, _), (2, _), (4, _), (5, _), (6, _)]) rfl ?_
              exact ih22 (n + 1) _ _ _ (by omega) (by omega) (by omega) (by first | (rw [orI_in ⟨by omega, by omega⟩]; done) | (rw [orI_out (by omega)]; exact hz)) (by first | (rw [orI_out (by omega)]; done) | (rw [orI_in ⟨by omega, by omega⟩]; exact hz2))
            · skip
              refine g_iload (pc := 46) (pl := 3) X dX4_orphanedBy_46 rfl ?_
              refine g_aload_n (pc := 48) (pl := 0) X dX4_orphanedBy_48 rfl ?_
              refine g_getf (pc := 49) X zF_X4_orphanedBy_23 hO rfl dX4_orphanedBy_49 ?_
              refine g_iload (pc := 52) (pl := 5) X dX4_orphanedBy_52 rfl ?_
              obtain ⟨hRO, -⟩ := id hW
              refine gVi (pc := 54) (n2 := 0) (k2 := 0) X cs_X4_orphanedBy_69 (c_X6_item (zl K) D base (q + 5) 60 (g 0) (OW g) (n : Int) (by omega)) rfl hRO (by omega) hW rfl ⟨Nat.le_of_ble_eq_true rfl, Nat.le_of_ble_eq_true rfl⟩ dX4_orphanedBy_54 (Nat.le_of_ble_eq_true rfl) rfl rfl (fun v54 H1 hp54 hs54 => ?_)
              obtain ⟨rfl, rfl⟩ := hp54
              have hit : itm (g 0) (OW g) (n : Int) = OW g (n : Int) := if_pos (by omega)
              rw [hit]
              refine g_ior (pc := 57) (z := J (((orI g a b n).1 ||| (OW g (n : Int)).toNat : Nat) : Int)) X dX4_orphanedBy_57 (by rw [hz, J_or (by omega) (by omega), Int.toNat_natCast]) ?_
              refine g_istore (pc := 58) (lv' := [(4, _), (0, _), (1, _), (2, _), (5, _), (6, _)]) X dX4_orphanedBy_58 (by decide) rfl ?_
              refine g_goto (pc := 60) X 77 dX4_orphanedBy_60 (by decide) ?_
              refine g_iinc (pc := 77) (pl := 5) (x := (n : Int)) (lv' := [(6, _), (4, _), (0, _), (1, _), (2, _), (5, _)]) X dX4_orphanedBy_77 rfl (by decide) rfl ?_
              refine g_goto (pc := 80) X 22 dX4_orphanedBy_80 (by decide) ?_
              refine G.pick [2, 3, 4, 1, 5, 0] (lv' := [(0, _), (1, _), (2, _), (4, _), (5, _), (6, _)]) rfl ?_
              exact ih22 (n + 1) _ _ _ (by omega) (by omega) (by omega) (by first | (rw [orI_in ⟨by omega, by omega⟩]; done) | (rw [orI_out (by omega)]; exact hz)) (by first | (rw [orI_out (by omega)]; done) | (rw [orI_in ⟨by omega, by omega⟩]; exact hz2))
    refine G.pick [4, 5, 6, 2, 1, 0] (lv' := [(0, _), (1, _), (2, _), (4, _), (5, _), (6, _)]) rfl ?_
    exact hL22 _ 0 _ _ _ (Nat.lt_succ_self _) (by omega) rfl rfl rfl
  · skip
    refine g_iload_n (pc := 11) (pl := 0) X dX4_orphanedBy_11 rfl ?_
    refine g_iret (pc := 12) X R hH dX4_orphanedBy_12 ?_
    exact ⟨rfl, if_pos (by omega)⟩


abbrev rm_X8_isIn : Room := { frames := 0, cells := 0, slots := 0, locals := 0 }
set_option maxRecDepth 100000 in
theorem c_X8_isIn (l : Launch) (D : zD) (base : Nat) (m n : Int) (hm : 0 ≤ m ∧ m < 65536) (hn : rg n) : Ct l yX8_isIn wsX8_isIn rm_X8_isIn D base [.int (J m), .int (J n)] (fun _ => True) (PI (fun H v H1 => H = H1 ∧ (if isin m n then 1 else 0) = v)) := by
  refine Ct.of (own := RX8) (cc := cX8_isIn) (maxL := 2) (by decide +kernel) rfl (Nat.le_of_ble_eq_true rfl) rfl ?_
  intro K H X R hH hnm hP
  show G K 0 0 H 0 [(0, .int (J m)), (1, .int (J n))] []
  refine g_iload_n (pc := 0) (pl := 1) X dX8_isIn_0 rfl ?_
  refine g_if_lt (pc := 1) X 22 dX8_isIn_1 (by decide) (by omega) (fun c1 => ?_) (fun c1 => ?_)
  · skip
    refine g_iconst (pc := 22) X dX8_isIn_22 ?_
    refine g_zret (pc := 23) X R hH (by first | exact Or.inl rfl | exact Or.inr rfl | omega) dX8_isIn_23 ?_
    refine ⟨rfl, ?_⟩
    split
    · first | rfl | (rename_i h; first | (exact absurd h.2.2 c15) | (exfalso; omega))
    · first | rfl | (rename_i h; exact absurd ⟨by omega, by omega, c15⟩ h)
  · skip
    refine g_iload_n (pc := 4) (pl := 1) X dX8_isIn_4 rfl ?_
    refine g_bipush (pc := 5) X dX8_isIn_5 (by decide +kernel) ?_
    refine g_icmp_ge (pc := 7) X 22 dX8_isIn_7 (by decide) (by omega) (by omega) (fun c7 => ?_) (fun c7 => ?_)
    · skip
      refine g_iconst (pc := 22) X dX8_isIn_22 ?_
      refine g_zret (pc := 23) X R hH (by first | exact Or.inl rfl | exact Or.inr rfl | omega) dX8_isIn_23 ?_
      refine ⟨rfl, ?_⟩
      split
      · first | rfl | (rename_i h; first | (exact absurd h.2.2 c15) | (exfalso; omega))
      · first | rfl | (rename_i h; exact absurd ⟨by omega, by omega, c15⟩ h)
    · skip
      refine g_iload_n (pc := 10) (pl := 0) X dX8_isIn_10 rfl ?_
      refine g_iload_n (pc := 11) (pl := 1) X dX8_isIn_11 rfl ?_
      refine g_ishr (pc := 12) (z := J ((m.toNat / 2 ^ n.toNat : Nat) : Int)) X dX8_isIn_12 (J_shr (by omega) (by omega)) ?_
      refine g_iconst (pc := 13) X dX8_isIn_13 ?_
      refine g_iand (pc := 14) (z := J (if btt m n then 1 else 0)) X dX8_isIn_14 (by rw [J_and (by first | exact Int.natCast_nonneg _ | exact Int.ofNat_nonneg _) (by omega), btt_div]) ?_
      refine g_if_eq (pc := 15) X 22 dX8_isIn_15 (by decide) (zbr (btt m n = true)) (fun c15 => ?_) (fun c15 => ?_)
      · skip
        replace c15 := zb0 c15
        refine g_iconst (pc := 22) X dX8_isIn_22 ?_
        refine g_zret (pc := 23) X R hH (by first | exact Or.inl rfl | exact Or.inr rfl | omega) dX8_isIn_23 ?_
        refine ⟨rfl, ?_⟩
        split
        · first | rfl | (rename_i h; first | (exact absurd h.2.2 c15) | (exfalso; omega))
        · first | rfl | (rename_i h; exact absurd ⟨by omega, by omega, c15⟩ h)
      · skip
        replace c15 := zb1 c15
        refine g_iconst (pc := 18) X dX8_isIn_18 ?_
        refine g_goto (pc := 19) X 23 dX8_isIn_19 (by decide) ?_
        refine g_zret (pc := 23) X R hH (by first | exact Or.inl rfl | exact Or.inr rfl | omega) dX8_isIn_23 ?_
        refine ⟨rfl, ?_⟩
        split
        · first | rfl | (rename_i h; first | (exact absurd h.2.2 c15) | (exfalso; omega))
        · first | rfl | (rename_i h; exact absurd ⟨by omega, by omega, c15⟩ h)

abbrev rm_X5_gather : Room := { frames := 1, cells := 0, slots := 0, locals := 21 }
theorem zW_X5_gather_9 : zW RX5 wsX5_gather 5 0 9 false (tyX5 0) := ⟨RX5, TX5, 4, tyX5, rfl, by decide +kernel, by decide, by decide +kernel, tyX5_ok, nmX5, rfl, rfl, rfl⟩
theorem zW_X5_gather_15 : zW RX5 wsX5_gather 5 1 15 false (tyX5 1) := ⟨RX5, TX5, 4, tyX5, rfl, by decide +kernel, by decide, by decide +kernel, tyX5_ok, nmX5, rfl, rfl, rfl⟩
theorem zW_X5_gather_18 : zW RX5 wsX5_gather 5 2 18 false (tyX5 2) := ⟨RX5, TX5, 4, tyX5, rfl, by decide +kernel, by decide, by decide +kernel, tyX5_ok, nmX5, rfl, rfl, rfl⟩
theorem zW_X5_gather_21 : zW RX5 wsX5_gather 5 3 21 false (tyX5 3) := ⟨RX5, TX5, 4, tyX5, rfl, by decide +kernel, by decide, by decide +kernel, tyX5_ok, nmX5, rfl, rfl, rfl⟩
theorem zF_X5_gather_24 : zF RX5 wsX5_gather 6 1 24 := ⟨RX6, TX6, 2, rfl, by decide +kernel, by decide, by decide +kernel⟩
theorem cs_X5_gather_29 : zCV RX5 wsX5_gather 29 6 yX6_item wsX6_item cX6_item 2 (some .int) rm_X5_gather rm_X6_item 1 := ⟨_, _, gX5_gather_X6_item, rfl, ⟨by decide +kernel, by decide +kernel, by decide +kernel⟩, ⟨Nat.le_of_ble_eq_true rfl, Nat.le_of_ble_eq_true rfl⟩, rfl, rfl⟩
theorem cs_X5_gather_33 : zCN RX5 wsX5_gather 33 yX8_isIn wsX8_isIn cX8_isIn 2 (some .boolean) rm_X5_gather rm_X8_isIn 2 := ⟨_, _, gX5_gather_X8_isIn_n33, (by decide +kernel : Cond.methodLinkNest RX5 33 yX8_isIn RX8 ∈ zNest), by decide +kernel, by decide +kernel, rfl, ⟨by decide +kernel, by decide +kernel, by decide +kernel⟩, ⟨Nat.le_of_ble_eq_true rfl, Nat.le_of_ble_eq_true rfl⟩⟩
theorem zF_X5_gather_15 : zF RX5 wsX5_gather 5 1 15 := ⟨RX5, TX5, 4, rfl, by decide +kernel, by decide, by decide +kernel⟩
theorem zF_X5_gather_9 : zF RX5 wsX5_gather 5 0 9 := ⟨RX5, TX5, 4, rfl, by decide +kernel, by decide, by decide +kernel⟩
set_option maxRecDepth 100000 in
theorem c_X5_gather (l : Launch) (D : zD) (base : Nat) (q r : Nat) (p1 p2 p3 p4 n x : Int) (f : Int → Int) (hq : base ≤ q) (hr : base ≤ r) (hqr : q < r ∨ r + 2 ≤ q) (hx : rg x) (hf : ∀ i : Int, 0 ≤ i → i < n → 0 ≤ f i ∧ f i < 65536) : Ct l yX5_gather wsX5_gather rm_X5_gather D base [.ref q, .ref r, .int (J x)] (fun H => Ob D q 5 [.int (J p1), .int (J p2), .int (J p3), .int (J p4)] H ∧ RowAt D r 60 n f H) (PV (fun H H1 => Ob D q 5 [.int (J (scP (ownb f x) n.toNat)), .int (J (scL (ownb f x) n.toNat)), .int (J (scF (ownb f x) n.toNat)), .int (J (scE (ownb f x) n.toNat))] H1 ∧ Fr (Iv q (q + 1)) 0 H H1)) := by
  refine Ct.of (own := RX5) (cc := cX5_gather) (maxL := 7) (by decide +kernel) rfl (Nat.le_of_ble_eq_true rfl) rfl ?_
  intro K H X R hH hnm hP
  show G K 0 0 H 0 [(0, .ref q), (1, .ref r), (2, .int (J x))] []
  obtain ⟨hO, hF⟩ := hP
  have hbd := hF.bd
  refine g_aload_n (pc := 0) (pl := 0) X dX5_gather_0 rfl ?_
  refine g_iconst (pc := 1) X dX5_gather_1 ?_
  refine g_putf (pc := 2) X zW_X5_gather_9 hO (by omega) rfl rfl rfl dX5_gather_2 (fun H1 hOn hf1 => ?_)
  replace hF := hF.fr hf1 (by omega)
  replace hO : Ob D q 5 [.int (J 0), .int (J p2), .int (J p3), .int (J p4)] H1 := hOn
  clear hOn
  refine g_aload_n (pc := 5) (pl := 0) X dX5_gather_5 rfl ?_
  refine g_iconst (pc := 6) X dX5_gather_6 ?_
  refine g_putf (pc := 7) X zW_X5_gather_15 hO (by omega) rfl rfl rfl dX5_gather_7 (fun H2 hOn hf2 => ?_)
  replace hF := hF.fr hf2 (by omega)
  replace hO : Ob D q 5 [.int (J 0), .int (J 0), .int (J p3), .int (J p4)] H2 := hOn
  clear hOn
  refine g_aload_n (pc := 10) (pl := 0) X dX5_gather_10 rfl ?_
  refine g_bipush (pc := 11) X dX5_gather_11 (by decide +kernel) ?_
  refine g_putf (pc := 13) X zW_X5_gather_18 hO (by omega) rfl rfl rfl dX5_gather_13 (fun H3 hOn hf3 => ?_)
  replace hF := hF.fr hf3 (by omega)
  replace hO : Ob D q 5 [.int (J 0), .int (J 0), .int (J (-6)), .int (J p4)] H3 := hOn
  clear hOn
  refine g_aload_n (pc := 16) (pl := 0) X dX5_gather_16 rfl ?_
  refine g_bipush (pc := 17) X dX5_gather_17 (by decide +kernel) ?_
  refine g_putf (pc := 19) X zW_X5_gather_21 hO (by omega) rfl rfl rfl dX5_gather_19 (fun H4 hOn hf4 => ?_)
  replace hF := hF.fr hf4 (by omega)
  replace hO : Ob D q 5 [.int (J 0), .int (J 0), .int (J (-6)), .int (J (-6))] H4 := hOn
  clear hOn
  refine g_iconst (pc := 22) X dX5_gather_22 ?_
  refine g_istore_n (pc := 23) (lv' := [(3, _), (0, _), (1, _), (2, _)]) X dX5_gather_23 (by decide) rfl ?_
  refine g_iconst (pc := 24) X dX5_gather_24 ?_
  refine g_istore (pc := 25) (lv' := [(4, _), (3, _), (0, _), (1, _), (2, _)]) X dX5_gather_25 (by decide) rfl ?_
  refine g_iconst (pc := 27) X dX5_gather_27 ?_
  refine g_istore (pc := 28) (lv' := [(5, _), (4, _), (3, _), (0, _), (1, _), (2, _)]) X dX5_gather_28 (by decide) rfl ?_
  have hL30 : ∀ (fu : Nat) (p : Nat) (pi z3 z4 g1 g2 g3 g4 : Int) (Hx : Heap), n.toNat - p < fu → ((p : Int) ≤ n ∧ pi = p) → (z3 = p - scR (ownb f x) p ∧ z4 = scM (ownb f x) p ∧ g1 = scP (ownb f x) p ∧ g2 = scL (ownb f x) p ∧ g3 = scF (ownb f x) p ∧ g4 = scE (ownb f x) p) → (Ob D q 5 [.int (J g1), .int (J g2), .int (J g3), .int (J g4)] Hx) → (RowAt D r 60 n f Hx) → (Fr (Iv q (q + 1)) 0 H Hx) → G K 0 0 Hx 30 [(0, .ref q), (1, .ref r), (2, .int (J x)), (3, .int (J z3)), (4, .int (J z4)), (5, .int (J pi))] [] := by
    intro fu
    induction fu with
    | zero => intro p pi z3 z4 g1 g2 g3 g4 Hx hm; exact absurd hm (Nat.not_lt_zero _)
    | succ fu ih30 =>
      intro p pi z3 z4 g1 g2 g3 g4 Hx hm h1 hv hO hF h3
      have hbs := sc_bd (ownb f x) p
      obtain ⟨hFO, -⟩ := id hF
      refine g_iload (pc := 30) (pl := 5) X dX5_gather_30 rfl ?_
      refine g_aload_n (pc := 32) (pl := 1) X dX5_gather_32 rfl ?_
      refine g_getf (pc := 33) X zF_X5_gather_24 hFO rfl dX5_gather_33 ?_
      refine g_icmp_ge (pc := 36) X 122 dX5_gather_36 (by decide) (by omega) (by omega) (fun c36 => ?_) (fun c36 => ?_)
      · skip
        refine g_vret (pc := 122) X R hH dX5_gather_122 ?_
        have ep : n.toNat = p := by omega
        rw [ep]
        obtain ⟨-, -, rfl, rfl, rfl, rfl⟩ := hv
        exact ⟨hO, h3⟩
      · skip
        refine g_aload_n (pc := 39) (pl := 1) X dX5_gather_39 rfl ?_
        refine g_iload (pc := 40) (pl := 5) X dX5_gather_40 rfl ?_
        refine gVi (pc := 42) (n2 := 0) (k2 := 0) X cs_X5_gather_29 (c_X6_item (zl K) D base r 60 n f pi (by omega)) rfl hFO (by omega) hF rfl ⟨Nat.le_of_ble_eq_true rfl, Nat.le_of_ble_eq_true rfl⟩ dX5_gather_42 (Nat.le_of_ble_eq_true rfl) rfl rfl (fun v42 H5 hp42 hs42 => ?_)
        obtain ⟨rfl, rfl⟩ := hp42
        refine g_iload_n (pc := 45) (pl := 2) X dX5_gather_45 rfl ?_
        have hit : itm n f pi = f (p : Int) := by rw [h1.2]; exact if_pos (by omega)
        have hfp := hf (p : Int) (by omega) (by omega)
        rw [hit]
        refine gNi (pc := 46) (n2 := 0) (k2 := 0) X cs_X5_gather_33 (c_X8_isIn (zl K) D base (f (p : Int)) x (by omega) hx) rfl (by have := hO.lt; omega) trivial rfl ⟨Nat.le_of_ble_eq_true rfl, Nat.le_of_ble_eq_true rfl⟩ dX5_gather_46 (Nat.le_of_ble_eq_true rfl) rfl rfl (fun v46 H5 hp46 hs46 => ?_)
        obtain ⟨rfl, rfl⟩ := hp46
        refine g_if_ne (pc := 49) X 60 dX5_gather_49 (by decide) (zbr _) (fun c49 => ?_) (fun c49 => ?_)
        · skip
          replace c49 := zb1 c49
          have cp : ownb f x (p : Int) = true := by unfold ownb; rw [decide_eq_true_eq]; exact c49
          obtain ⟨e1, e2, e3, e4, e5⟩ := sc_yes cp
          have e6 := scF_yes cp
          refine g_aload_n (pc := 60) (pl := 0) X dX5_gather_60 rfl ?_
          refine g_dup (pc := 61) X dX5_gather_61 rfl ?_
          refine g_getf (pc := 62) X zF_X5_gather_15 hO rfl dX5_gather_62 ?_
          refine g_iconst (pc := 65) X dX5_gather_65 ?_
          refine g_iadd (pc := 66) X dX5_gather_66 ?_
          refine g_putf (pc := 67) X zW_X5_gather_15 hO (by omega) rfl rfl rfl dX5_gather_67 (fun H5 hOn hf5 => ?_)
          replace hFO := hFO.fr hf5 (by omega)
          replace hF := hF.fr hf5 (by omega)
          replace hO : Ob D q 5 [.int (J g1), .int (J (g2 + 1)), .int (J g3), .int (J g4)] H5 := hOn
          clear hOn
          refine g_iload_n (pc := 70) (pl := 3) X dX5_gather_70 rfl ?_
          refine g_iload (pc := 71) (pl := 5) X dX5_gather_71 rfl ?_
          refine g_icmp_ne (pc := 73) X 86 dX5_gather_73 (by decide) (by omega) (by omega) (fun c73 => ?_) (fun c73 => ?_)
          · skip
            rw [if_neg (by omega)] at e1
            refine g_iload (pc := 86) (pl := 5) X dX5_gather_86 rfl ?_
            refine g_iload_n (pc := 88) (pl := 3) X dX5_gather_88 rfl ?_
            refine g_isub (pc := 89) X dX5_gather_89 ?_
            refine g_iconst (pc := 90) X dX5_gather_90 ?_
            refine g_iadd (pc := 91) X dX5_gather_91 ?_
            refine g_istore (pc := 92) (lv' := [(6, _), (0, _), (1, _), (2, _), (3, _), (4, _), (5, _)]) X dX5_gather_92 (by decide) rfl ?_
            refine g_iload (pc := 94) (pl := 0) X dX5_gather_94 rfl ?_
            refine g_iload (pc := 96) (pl := 5) X dX5_gather_96 rfl ?_
            refine g_icmp_le (pc := 98) X 116 dX5_gather_98 (by decide) (by omega) (by omega) (fun c98 => ?_) (fun c98 => ?_)
            · skip
              rw [if_neg (by omega)] at e4 e5 e6
              refine g_iinc (pc := 116) (pl := 6) (x := pi) (lv' := [(5, _), (6, _), (0, _), (1, _), (2, _), (3, _), (4, _)]) X dX5_gather_116 rfl (by decide) rfl ?_
              refine g_goto (pc := 119) X 30 dX5_gather_119 (by decide) ?_
              refine G.pick [2, 3, 4, 5, 6, 0] (lv' := [(0, _), (1, _), (2, _), (3, _), (4, _), (5, _)]) rfl ?_
              exact ih30 (p + 1) _ _ _ _ _ _ _ H5 (by omega) (by omega) (by omega) hO hF (Fr.trans (h3.wide (by omega) (by omega)) (hf5.wide (by omega) (by omega)))
            · skip
              rw [if_pos (by omega)] at e4 e5 e6
              refine g_iload (pc := 101) (pl := 0) X dX5_gather_101 rfl ?_
              refine g_istore (pc := 103) (lv' := [(4, _), (6, _), (0, _), (1, _), (2, _), (3, _), (5, _)]) X dX5_gather_103 (by decide) rfl ?_
              refine g_aload_n (pc := 105) (pl := 2) X dX5_gather_105 rfl ?_
              refine g_iload_n (pc := 106) (pl := 5) X dX5_gather_106 rfl ?_
              refine g_putf (pc := 107) X zW_X5_gather_18 hO (by omega) rfl rfl rfl dX5_gather_107 (fun H6 hOn hf6 => ?_)
              replace hFO := hFO.fr hf6 (by omega)
              replace hF := hF.fr hf6 (by omega)
              replace hO : Ob D q 5 [.int (J g1), .int (J (g2 + 1)), .int (J z3), .int (J g4)] H6 := hOn
              clear hOn
              refine g_aload_n (pc := 110) (pl := 2) X dX5_gather_110 rfl ?_
              refine g_iload (pc := 111) (pl := 6) X dX5_gather_111 rfl ?_
              refine g_putf (pc := 113) X zW_X5_gather_21 hO (by omega) rfl rfl rfl dX5_gather_113 (fun H7 hOn hf7 => ?_)
              replace hFO := hFO.fr hf7 (by omega)
              replace hF := hF.fr hf7 (by omega)
              replace hO : Ob D q 5 [.int (J g1), .int (J (g2 + 1)), .int (J z3), .int (J pi)] H7 := hOn
              clear hOn
              refine g_iinc (pc := 116) (pl := 6) (x := pi) (lv' := [(5, _), (4, _), (6, _), (0, _), (1, _), (2, _), (3, _)]) X dX5_gather_116 rfl (by decide) rfl ?_
              refine g_goto (pc := 119) X 30 dX5_gather_119 (by decide) ?_
              refine G.pick [3, 4, 5, 6, 1, 0] (lv' := [(0, _), (1, _), (2, _), (3, _), (4, _), (5, _)]) rfl ?_
              exact ih30 (p + 1) _ _ _ _ _ _ _ H7 (by omega) (by omega) (by omega) hO hF (Fr.trans (h3.wide (by omega) (by omega)) (Fr.trans (hf5.wide (by omega) (by omega)) (Fr.trans (hf6.wide (by omega) (by omega)) (hf7.wide (by omega) (by omega)))))
          · skip
            rw [if_pos (by omega)] at e1
            refine g_aload_n (pc := 76) (pl := 0) X dX5_gather_76 rfl ?_
            refine g_dup (pc := 77) X dX5_gather_77 rfl ?_
            refine g_getf (pc := 78) X zF_X5_gather_9 hO rfl dX5_gather_78 ?_
            refine g_iconst (pc := 81) X dX5_gather_81 ?_
            refine g_iadd (pc := 82) X dX5_gather_82 ?_
            refine g_putf (pc := 83) X zW_X5_gather_9 hO (by omega) rfl rfl rfl dX5_gather_83 (fun H6 hOn hf6 => ?_)
            replace hFO := hFO.fr hf6 (by omega)
            replace hF := hF.fr hf6 (by omega)
            replace hO : Ob D q 5 [.int (J (g1 + 1)), .int (J (g2 + 1)), .int (J g3), .int (J g4)] H6 := hOn
            clear hOn
            refine g_iload (pc := 86) (pl := 5) X dX5_gather_86 rfl ?_
            refine g_iload_n (pc := 88) (pl := 3) X dX5_gather_88 rfl ?_
            refine g_isub (pc := 89) X dX5_gather_89 ?_
            refine g_iconst (pc := 90) X dX5_gather_90 ?_
            refine g_iadd (pc := 91) X dX5_gather_91 ?_
            refine g_istore (pc := 92) (lv' := [(6, _), (0, _), (1, _), (2, _), (3, _), (4, _), (5, _)]) X dX5_gather_92 (by decide) rfl ?_
            refine g_iload (pc := 94) (pl := 0) X dX5_gather_94 rfl ?_
            refine g_iload (pc := 96) (pl := 5) X dX5_gather_96 rfl ?_
            refine g_icmp_le (pc := 98) X 116 dX5_gather_98 (by decide) (by omega) (by omega) (fun c98 => ?_) (fun c98 => ?_)
            · skip
              rw [if_neg (by omega)] at e4 e5 e6
              refine g_iinc (pc := 116) (pl := 6) (x := pi) (lv' := [(5, _), (6, _), (0, _), (1, _), (2, _), (3, _), (4, _)]) X dX5_gather_116 rfl (by decide) rfl ?_
              refine g_goto (pc := 119) X 30 dX5_gather_119 (by decide) ?_
              refine G.pick [2, 3, 4, 5, 6, 0] (lv' := [(0, _), (1, _), (2, _), (3, _), (4, _), (5, _)]) rfl ?_
              exact ih30 (p + 1) _ _ _ _ _ _ _ H6 (by omega) (by omega) (by omega) hO hF (Fr.trans (h3.wide (by omega) (by omega)) (Fr.trans (hf5.wide (by omega) (by omega)) (hf6.wide (by omega) (by omega))))
            · skip
              rw [if_pos (by omega)] at e4 e5 e6
              refine g_iload (pc := 101) (pl := 0) X dX5_gather_101 rfl ?_
              refine g_istore (pc := 103) (lv' := [(4, _), (6, _), (0, _), (1, _), (2, _), (3, _), (5, _)]) X dX5_gather_103 (by decide) rfl ?_
              refine g_aload_n (pc := 105) (pl := 2) X dX5_gather_105 rfl ?_
              refine g_iload_n (pc := 106) (pl := 5) X dX5_gather_106 rfl ?_
              refine g_putf (pc := 107) X zW_X5_gather_18 hO (by omega) rfl rfl rfl dX5_gather_107 (fun H7 hOn hf7 => ?_)
              replace hFO := hFO.fr hf7 (by omega)
              replace hF := hF.fr hf7 (by omega)
              replace hO : Ob D q 5 [.int (J (g1 + 1)), .int (J (g2 + 1)), .int (J z3), .int (J g4)] H7 := hOn
              clear hOn
              refine g_aload_n (pc := 110) (pl := 2) X dX5_gather_110 rfl ?_
              refine g_iload (pc := 111) (pl := 6) X dX5_gather_111 rfl ?_
              refine g_putf (pc := 113) X zW_X5_gather_21 hO (by omega) rfl rfl rfl dX5_gather_113 (fun H8 hOn hf8 => ?_)
              replace hFO := hFO.fr hf8 (by omega)
              replace hF := hF.fr hf8 (by omega)
              replace hO : Ob D q 5 [.int (J (g1 + 1)), .int (J (g2 + 1)), .int (J z3), .int (J pi)] H8 := hOn
              clear hOn
              refine g_iinc (pc := 116) (pl := 6) (x := pi) (lv' := [(5, _), (4, _), (6, _), (0, _), (1, _), (2, _), (3, _)]) X dX5_gather_116 rfl (by decide) rfl ?_
              refine g_goto (pc := 119) X 30 dX5_gather_119 (by decide) ?_
              refine G.pick [3, 4, 5, 6, 1, 0] (lv' := [(0, _), (1, _), (2, _), (3, _), (4, _), (5, _)]) rfl ?_
              exact ih30 (p + 1) _ _ _ _ _ _ _ H8 (by omega) (by omega) (by omega) hO hF (Fr.trans (h3.wide (by omega) (by omega)) (Fr.trans (hf5.wide (by omega) (by omega)) (Fr.trans (hf6.wide (by omega) (by omega)) (Fr.trans (hf7.wide (by omega) (by omega)) (hf8.wide (by omega) (by omega))))))
        · skip
          replace c49 := zb0 c49
          have cp : ¬ ownb f x (p : Int) = true := by unfold ownb; rw [decide_eq_true_eq]; exact c49
          obtain ⟨e1, e2, e3, e4, e5⟩ := sc_no cp
          have e6 := scF_no cp
          refine g_iload (pc := 52) (pl := 5) X dX5_gather_52 rfl ?_
          refine g_iconst (pc := 54) X dX5_gather_54 ?_
          refine g_iadd (pc := 55) X dX5_gather_55 ?_
          refine g_istore_n (pc := 56) (lv' := [(3, _), (0, _), (1, _), (2, _), (4, _), (5, _)]) X dX5_gather_56 (by decide) rfl ?_
          refine g_goto (pc := 57) X 116 dX5_gather_57 (by decide) ?_
          refine g_iinc (pc := 116) (pl := 5) (x := pi) (lv' := [(5, _), (3, _), (0, _), (1, _), (2, _), (4, _)]) X dX5_gather_116 rfl (by decide) rfl ?_
          refine g_goto (pc := 119) X 30 dX5_gather_119 (by decide) ?_
          refine G.pick [2, 3, 4, 1, 5, 0] (lv' := [(0, _), (1, _), (2, _), (3, _), (4, _), (5, _)]) rfl ?_
          exact ih30 (p + 1) _ _ _ _ _ _ _ Hx (by omega) (by omega) (by omega) hO hF (h3.wide (by omega) (by omega))
  refine G.pick [3, 4, 5, 2, 1, 0] (lv' := [(0, _), (1, _), (2, _), (3, _), (4, _), (5, _)]) rfl ?_
  exact hL30 _ 0 _ _ _ _ _ _ _ H4 (Nat.lt_succ_self _) (by omega) ⟨by have := (sc_0 (ownb f x)).2.2.1; omega, (sc_0 (ownb f x)).2.2.2.1.symm, (sc_0 (ownb f x)).1.symm, (sc_0 (ownb f x)).2.1.symm, (sc_0 (ownb f x)).2.2.2.2.2.symm, (sc_0 (ownb f x)).2.2.2.2.1.symm⟩ hO hF (Fr.trans (hf1.wide (by omega) (by omega)) (Fr.trans (hf2.wide (by omega) (by omega)) (Fr.trans (hf3.wide (by omega) (by omega)) (hf4.wide (by omega) (by omega)))))

abbrev rm_X7_look : Room := { frames := 2, cells := 0, slots := 0, locals := 45 }
theorem zW_X7_look_9 : zW RX7 wsX7_look 7 0 9 false (tyX7 0) := ⟨RX7, TX7, 3, tyX7, rfl, by decide +kernel, by decide, by decide +kernel, tyX7_ok, nmX7, rfl, rfl, rfl⟩
theorem zW_X7_look_15 : zW RX7 wsX7_look 7 1 15 false (tyX7 1) := ⟨RX7, TX7, 3, tyX7, rfl, by decide +kernel, by decide, by decide +kernel, tyX7_ok, nmX7, rfl, rfl, rfl⟩
theorem zW_X7_look_18 : zW RX7 wsX7_look 7 2 18 false (tyX7 2) := ⟨RX7, TX7, 3, tyX7, rfl, by decide +kernel, by decide, by decide +kernel, tyX7_ok, nmX7, rfl, rfl, rfl⟩
theorem zF_X7_look_21 : zF RX7 wsX7_look 2 1 21 := ⟨RX2, TX2, 4, rfl, by decide +kernel, by decide, by decide +kernel⟩
theorem zF_X7_look_27 : zF RX7 wsX7_look 6 1 27 := ⟨RX6, TX6, 2, rfl, by decide +kernel, by decide, by decide +kernel⟩
theorem cs_X7_look_32 : zCV RX7 wsX7_look 32 6 yX6_countAlike wsX6_countAlike cX6_countAlike 5 (some .int) rm_X7_look rm_X6_countAlike 3 := ⟨_, _, gX7_look_X6_countAlike, rfl, ⟨by decide +kernel, by decide +kernel, by decide +kernel⟩, ⟨Nat.le_of_ble_eq_true rfl, Nat.le_of_ble_eq_true rfl⟩, rfl, rfl⟩
theorem zF_X7_look_36 : zF RX7 wsX7_look 2 2 36 := ⟨RX2, TX2, 4, rfl, by decide +kernel, by decide, by decide +kernel⟩
theorem zF_X7_look_39 : zF RX7 wsX7_look 2 3 39 := ⟨RX2, TX2, 4, rfl, by decide +kernel, by decide, by decide +kernel⟩
theorem zF_X7_look_18 : zF RX7 wsX7_look 7 2 18 := ⟨RX7, TX7, 3, rfl, by decide +kernel, by decide, by decide +kernel⟩
theorem zF_X7_look_15 : zF RX7 wsX7_look 7 1 15 := ⟨RX7, TX7, 3, rfl, by decide +kernel, by decide, by decide +kernel⟩
set_option maxRecDepth 100000 in
theorem c_X7_look (l : Launch) (D : zD) (base : Nat) (q r x : Nat) (p1 p2 p3 n : Int) (f : Int → Int) (t wl al bl : Int) (w a b : Int → Int) (hq : base ≤ q) (hr : base ≤ r) (hx : base ≤ x) (hqr : q < r ∨ r + 2 ≤ q) (hqx : q < x ∨ x + 7 ≤ q) (hw1 : 1 ≤ wl) (hvl : ∀ i : Int, 0 ≤ i → i < n → 0 ≤ f i ∧ f i ≤ 25) (hvw : ∀ i : Int, 0 ≤ i → i < wl → 0 ≤ w i ∧ w i ≤ 25) (hva : ∀ i : Int, 0 ≤ i → i < al → 0 ≤ a i ∧ a i ≤ 25) (hvb : ∀ i : Int, 0 ≤ i → i < bl → 0 ≤ b i ∧ b i ≤ 25) : Ct l yX7_look wsX7_look rm_X7_look D base [.ref q, .ref r, .ref x] (fun H => Ob D q 7 [.int (J p1), .int (J p2), .int (J p3)] H ∧ RowAt D r 60 n f H ∧ NoteAt D x t wl al bl w a b H) (PV (fun H H1 => Ob D q 7 [.int (J (best (okS n f wl w) (lkS n f wl al bl a b) n.toNat).1), .int (J (best (okS n f wl w) (lkS n f wl al bl a b) n.toNat).2.1), .int (J (best (okS n f wl w) (lkS n f wl al bl a b) n.toNat).2.2)] H1 ∧ Fr (Iv q (q + 1)) 0 H H1)) := by
  refine Ct.of (own := RX7) (cc := cX7_look) (maxL := 6) (by decide +kernel) rfl (Nat.le_of_ble_eq_true rfl) rfl ?_
  intro K H X R hH hnm hP
  show G K 0 0 H 0 [(0, .ref q), (1, .ref r), (2, .ref x)] []
  obtain ⟨hO, hF, ⟨hNO, hW, hA, hB⟩⟩ := hP
  have hbd := hF.bd
  have hbw := hW.bd
  have hba := hA.bd
  have hbb := hB.bd
  have hv : ∀ i : Int, 0 ≤ i → i < n → rg (f i) := fun i h0 h1 => by have := hvl i h0 h1; omega
  have hv2 : ∀ i : Int, 0 ≤ i → i < wl → rg (w i) := fun i h0 h1 => by have := hvw i h0 h1; omega
  have hv3 : ∀ i : Int, 0 ≤ i → i < al → rg (a i) := fun i h0 h1 => by have := hva i h0 h1; omega
  have hv4 : ∀ i : Int, 0 ≤ i → i < bl → rg (b i) := fun i h0 h1 => by have := hvb i h0 h1; omega
  have hlk : ∀ i, 0 ≤ lkS n f wl al bl a b i ∧ lkS n f wl al bl a b i ≤ 1000 := fun i => by have h1 := alk_bd n f (i - 1) (-1) a (m := al) (by omega); have h2 := alk_bd n f (i + wl) 1 b (m := bl) (by omega); unfold lkS; omega
  refine g_aload_n (pc := 0) (pl := 0) X dX7_look_0 rfl ?_
  refine g_bipush (pc := 1) X dX7_look_1 (by decide +kernel) ?_
  refine g_putf (pc := 3) X zW_X7_look_9 hO (by omega) rfl rfl rfl dX7_look_3 (fun H1 hOn hf1 => ?_)
  replace hNO := hNO.fr hf1 (by omega)
  replace hF := hF.fr hf1 (by omega)
  replace hW := hW.fr hf1 (by omega)
  replace hA := hA.fr hf1 (by omega)
  replace hB := hB.fr hf1 (by omega)
  replace hO : Ob D q 7 [.int (J (-6)), .int (J p2), .int (J p3)] H1 := hOn
  clear hOn
  refine g_aload_n (pc := 6) (pl := 0) X dX7_look_6 rfl ?_
  refine g_bipush (pc := 7) X dX7_look_7 (by decide +kernel) ?_
  refine g_putf (pc := 9) X zW_X7_look_15 hO (by omega) rfl rfl rfl dX7_look_9 (fun H2 hOn hf2 => ?_)
  replace hNO := hNO.fr hf2 (by omega)
  replace hF := hF.fr hf2 (by omega)
  replace hW := hW.fr hf2 (by omega)
  replace hA := hA.fr hf2 (by omega)
  replace hB := hB.fr hf2 (by omega)
  replace hO : Ob D q 7 [.int (J (-6)), .int (J (-6)), .int (J p3)] H2 := hOn
  clear hOn
  refine g_aload_n (pc := 12) (pl := 0) X dX7_look_12 rfl ?_
  refine g_iconst (pc := 13) X dX7_look_13 ?_
  refine g_putf (pc := 14) X zW_X7_look_18 hO (by omega) rfl rfl rfl dX7_look_14 (fun H3 hOn hf3 => ?_)
  replace hNO := hNO.fr hf3 (by omega)
  replace hF := hF.fr hf3 (by omega)
  replace hW := hW.fr hf3 (by omega)
  replace hA := hA.fr hf3 (by omega)
  replace hB := hB.fr hf3 (by omega)
  replace hO : Ob D q 7 [.int (J (-6)), .int (J (-6)), .int (J 0)] H3 := hOn
  clear hOn
  refine g_aload_n (pc := 17) (pl := 2) X dX7_look_17 rfl ?_
  refine g_getf (pc := 18) X zF_X7_look_21 hNO rfl dX7_look_18 ?_
  obtain ⟨hWO, -⟩ := id hW
  refine g_getf (pc := 21) X zF_X7_look_27 hWO rfl dX7_look_21 ?_
  refine g_istore_n (pc := 24) (lv' := [(3, _), (0, _), (1, _), (2, _)]) X dX7_look_24 (by decide) rfl ?_
  refine g_iconst (pc := 25) X dX7_look_25 ?_
  refine g_istore (pc := 26) (lv' := [(4, _), (3, _), (0, _), (1, _), (2, _)]) X dX7_look_26 (by decide) rfl ?_
  have hL28 : ∀ (fu : Nat) (p : Nat) (pi g1 g2 g3 : Int) (Hx : Heap), n.toNat + 1 - p < fu → ((p : Int) ≤ n ∧ pi = p) → (g1 = (best (okS n f wl w) (lkS n f wl al bl a b) p).1 ∧ g2 = (best (okS n f wl w) (lkS n f wl al bl a b) p).2.1 ∧ g3 = (best (okS n f wl w) (lkS n f wl al bl a b) p).2.2) → (Ob D q 7 [.int (J g1), .int (J g2), .int (J g3)] Hx) → (RowAt D r 60 n f Hx) → (Ob D x 2 [.int (J t), .ref (x + 1), .ref (x + 3), .ref (x + 5)] Hx) → (RowAt D (x + 1) 60 wl w Hx) → (RowAt D (x + 3) 8 al a Hx) → (RowAt D (x + 5) 8 bl b Hx) → (Fr (Iv q (q + 1)) 0 H Hx) → G K 0 0 Hx 28 [(0, .ref q), (1, .ref r), (2, .ref x), (3, .int (J wl)), (4, .int (J pi))] [] := by
    intro fu
    induction fu with
    | zero => intro p pi g1 g2 g3 Hx hm; exact absurd hm (Nat.not_lt_zero _)
    | succ fu ih28 =>
      intro p pi g1 g2 g3 Hx hm h1 hv0 hO hF hNO hW hA hB h3
      have hbs := best_bd (okS n f wl w) (lkS n f wl al bl a b) hlk p
      refine g_iload (pc := 28) (pl := 4) X dX7_look_28 rfl ?_
      refine g_iload_n (pc := 30) (pl := 3) X dX7_look_30 rfl ?_
      refine g_iadd (pc := 31) X dX7_look_31 ?_
      refine g_aload_n (pc := 32) (pl := 1) X dX7_look_32 rfl ?_
      obtain ⟨hFO, -⟩ := id hF
      refine g_getf (pc := 33) X zF_X7_look_27 hFO rfl dX7_look_33 ?_
      refine g_icmp_gt (pc := 36) X 127 dX7_look_36 (by decide) (by omega) (by omega) (fun c36 => ?_) (fun c36 => ?_)
      · skip
        refine g_vret (pc := 127) X R hH dX7_look_127 ?_
        have es := best_stop (ok := okS n f wl w) (lk := lkS n f wl al bl a b) (k := p) n.toNat (by omega) (fun i h0 h1 q => by have := okS_in q hw1 (fun i a b => (hvw i a b).1); omega)
        rw [es]
        obtain ⟨rfl, rfl, rfl⟩ := hv0
        exact ⟨hO, h3⟩
      · skip
        refine g_aload_n (pc := 39) (pl := 1) X dX7_look_39 rfl ?_
        refine g_aload_n (pc := 40) (pl := 2) X dX7_look_40 rfl ?_
        refine g_getf (pc := 41) X zF_X7_look_21 hNO rfl dX7_look_41 ?_
        refine g_iload (pc := 44) (pl := 4) X dX7_look_44 rfl ?_
        refine g_iconst (pc := 46) X dX7_look_46 ?_
        obtain ⟨hFO, -⟩ := id hF
        refine gVi (pc := 47) (n2 := 0) (k2 := 0) X cs_X7_look_32 (c_X6_countAlike (zl K) D base r 60 (x + 1) 60 n wl f w pi 1 (by omega) (by omega) (by decide) (by omega) hv hv2) rfl hFO (by omega) ⟨hF, hW⟩ rfl ⟨Nat.le_of_ble_eq_true rfl, Nat.le_of_ble_eq_true rfl⟩ dX7_look_47 (Nat.le_of_ble_eq_true rfl) rfl rfl (fun v47 H4 hp47 hs47 => ?_)
        obtain ⟨rfl, q0, q1, q2, q3⟩ := hp47
        have ev := alk_of q0 q1 q2 q3
        subst ev
        clear q0 q1 q2 q3
        have hk47 := alk_bd n f pi 1 w (m := wl) (by omega)
        refine g_iload_n (pc := 50) (pl := 3) X dX7_look_50 rfl ?_
        refine g_icmp_ne (pc := 51) X 121 dX7_look_51 (by decide) (by omega) (by omega) (fun c51 => ?_) (fun c51 => ?_)
        · skip
          have cp : ¬ okS n f wl w (p : Int) = true := by unfold okS; rw [decide_eq_true_eq, ← h1.2]; exact c51
          have e0 := best_no (lk := lkS n f wl al bl a b) cp
          rw [← e0] at hv0
          refine g_iinc (pc := 121) (pl := 4) (x := pi) (lv' := [(4, _), (0, _), (1, _), (2, _), (3, _)]) X dX7_look_121 rfl (by decide) rfl ?_
          refine g_goto (pc := 124) X 28 dX7_look_124 (by decide) ?_
          refine G.pick [1, 2, 3, 4, 0] (lv' := [(0, _), (1, _), (2, _), (3, _), (4, _)]) rfl ?_
          exact ih28 (p + 1) _ _ _ _ Hx (by omega) (by omega) (by omega) hO hF hNO hW hA hB (h3.wide (by omega) (by omega))
        · skip
          have cp : okS n f wl w (p : Int) = true := by unfold okS; rw [decide_eq_true_eq, ← h1.2]; exact c51
          obtain ⟨e1, e2, e3⟩ := best_yes (lk := lkS n f wl al bl a b) cp
          refine g_aload_n (pc := 54) (pl := 1) X dX7_look_54 rfl ?_
          refine g_aload_n (pc := 55) (pl := 2) X dX7_look_55 rfl ?_
          refine g_getf (pc := 56) X zF_X7_look_36 hNO rfl dX7_look_56 ?_
          refine g_iload (pc := 59) (pl := 4) X dX7_look_59 rfl ?_
          refine g_iconst (pc := 61) X dX7_look_61 ?_
          refine g_isub (pc := 62) X dX7_look_62 ?_
          refine g_iconst (pc := 63) X dX7_look_63 ?_
          obtain ⟨hFO, -⟩ := id hF
          refine gVi (pc := 64) (n2 := 0) (k2 := 0) X cs_X7_look_32 (c_X6_countAlike (zl K) D base r 60 (x + 3) 8 n al f a (pi - 1) (-1) (by omega) (by omega) (by decide) (by omega) hv hv3) rfl hFO (by omega) ⟨hF, hA⟩ rfl ⟨Nat.le_of_ble_eq_true rfl, Nat.le_of_ble_eq_true rfl⟩ dX7_look_64 (Nat.le_of_ble_eq_true rfl) rfl rfl (fun v64 H4 hp64 hs64 => ?_)
          obtain ⟨rfl, q0, q1, q2, q3⟩ := hp64
          have ev := alk_of q0 q1 q2 q3
          subst ev
          clear q0 q1 q2 q3
          have hk64 := alk_bd n f (pi - 1) (-1) a (m := al) (by omega)
          refine g_aload_n (pc := 67) (pl := 1) X dX7_look_67 rfl ?_
          refine g_aload_n (pc := 68) (pl := 2) X dX7_look_68 rfl ?_
          refine g_getf (pc := 69) X zF_X7_look_39 hNO rfl dX7_look_69 ?_
          refine g_iload (pc := 72) (pl := 4) X dX7_look_72 rfl ?_
          refine g_iload_n (pc := 74) (pl := 3) X dX7_look_74 rfl ?_
          refine g_iadd (pc := 75) X dX7_look_75 ?_
          refine g_iconst (pc := 76) X dX7_look_76 ?_
          obtain ⟨hFO, -⟩ := id hF
          refine gVi (pc := 77) (n2 := 0) (k2 := 0) X cs_X7_look_32 (c_X6_countAlike (zl K) D base r 60 (x + 5) 8 n bl f b (pi + wl) 1 (by omega) (by omega) (by decide) (by omega) hv hv4) rfl hFO (by omega) ⟨hF, hB⟩ rfl ⟨Nat.le_of_ble_eq_true rfl, Nat.le_of_ble_eq_true rfl⟩ dX7_look_77 (Nat.le_of_ble_eq_true rfl) rfl rfl (fun v77 H4 hp77 hs77 => ?_)
          obtain ⟨rfl, q0, q1, q2, q3⟩ := hp77
          have ev := alk_of q0 q1 q2 q3
          subst ev
          clear q0 q1 q2 q3
          have hk77 := alk_bd n f (pi + wl) 1 b (m := bl) (by omega)
          refine g_iadd (pc := 80) X dX7_look_80 ?_
          have el : lkS n f wl al bl a b (p : Int) = alk n f (pi - 1) (-1) a al + alk n f (pi + wl) 1 b bl := by unfold lkS; rw [h1.2]
          refine g_istore (pc := 81) (lv' := [(5, _), (0, _), (1, _), (2, _), (3, _), (4, _)]) X dX7_look_81 (by decide) rfl ?_
          refine g_aload_n (pc := 83) (pl := 1) X dX7_look_83 rfl ?_
          refine g_getf (pc := 84) X zF_X7_look_18 hO rfl dX7_look_84 ?_
          refine g_if_eq (pc := 87) X 99 dX7_look_87 (by decide) (by omega) (fun c87 => ?_) (fun c87 => ?_)
          · skip
            rw [if_pos (by omega)] at e1 e2
            refine g_aload_n (pc := 99) (pl := 1) X dX7_look_99 rfl ?_
            refine g_iload (pc := 100) (pl := 5) X dX7_look_100 rfl ?_
            refine g_putf (pc := 102) X zW_X7_look_9 hO (by omega) rfl rfl rfl dX7_look_102 (fun H4 hOn hf4 => ?_)
            replace hNO := hNO.fr hf4 (by omega)
            replace hFO := hFO.fr hf4 (by omega)
            replace hF := hF.fr hf4 (by omega)
            replace hW := hW.fr hf4 (by omega)
            replace hA := hA.fr hf4 (by omega)
            replace hB := hB.fr hf4 (by omega)
            replace hO : Ob D q 7 [.int (J pi), .int (J g2), .int (J g3)] H4 := hOn
            clear hOn
            refine g_aload_n (pc := 105) (pl := 1) X dX7_look_105 rfl ?_
            refine g_iload (pc := 106) (pl := 0) X dX7_look_106 rfl ?_
            refine g_putf (pc := 108) X zW_X7_look_15 hO (by omega) rfl rfl rfl dX7_look_108 (fun H5 hOn hf5 => ?_)
            replace hNO := hNO.fr hf5 (by omega)
            replace hFO := hFO.fr hf5 (by omega)
            replace hF := hF.fr hf5 (by omega)
            replace hW := hW.fr hf5 (by omega)
            replace hA := hA.fr hf5 (by omega)
            replace hB := hB.fr hf5 (by omega)
            replace hO : Ob D q 7 [.int (J pi), .int (J ((alk n f (pi - 1) (-1) a al) + (alk n f (pi + wl) 1 b bl))), .int (J g3)] H5 := hOn
            clear hOn
            refine g_aload_n (pc := 111) (pl := 1) X dX7_look_111 rfl ?_
            refine g_dup (pc := 112) X dX7_look_112 rfl ?_
            refine g_getf (pc := 113) X zF_X7_look_18 hO rfl dX7_look_113 ?_
            refine g_iconst (pc := 116) X dX7_look_116 ?_
            refine g_iadd (pc := 117) X dX7_look_117 ?_
            refine g_putf (pc := 118) X zW_X7_look_18 hO (by omega) rfl rfl rfl dX7_look_118 (fun H6 hOn hf6 => ?_)
            replace hNO := hNO.fr hf6 (by omega)
            replace hFO := hFO.fr hf6 (by omega)
            replace hF := hF.fr hf6 (by omega)
            replace hW := hW.fr hf6 (by omega)
            replace hA := hA.fr hf6 (by omega)
            replace hB := hB.fr hf6 (by omega)
            replace hO : Ob D q 7 [.int (J pi), .int (J ((alk n f (pi - 1) (-1) a al) + (alk n f (pi + wl) 1 b bl))), .int (J (g3 + 1))] H6 := hOn
            clear hOn
            refine g_iinc (pc := 121) (pl := 5) (x := pi) (lv' := [(4, _), (5, _), (0, _), (1, _), (2, _), (3, _)]) X dX7_look_121 rfl (by decide) rfl ?_
            refine g_goto (pc := 124) X 28 dX7_look_124 (by decide) ?_
            refine G.pick [2, 3, 4, 5, 0] (lv' := [(0, _), (1, _), (2, _), (3, _), (4, _)]) rfl ?_
            exact ih28 (p + 1) _ _ _ _ H6 (by omega) (by omega) (by omega) hO hF hNO hW hA hB (Fr.trans (h3.wide (by omega) (by omega)) (Fr.trans (hf4.wide (by omega) (by omega)) (Fr.trans (hf5.wide (by omega) (by omega)) (hf6.wide (by omega) (by omega)))))
          · skip
            refine g_iload (pc := 90) (pl := 0) X dX7_look_90 rfl ?_
            refine g_aload_n (pc := 92) (pl := 1) X dX7_look_92 rfl ?_
            refine g_getf (pc := 93) X zF_X7_look_15 hO rfl dX7_look_93 ?_
            refine g_icmp_le (pc := 96) X 111 dX7_look_96 (by decide) (by omega) (by omega) (fun c96 => ?_) (fun c96 => ?_)
            · skip
              rw [if_neg (by omega)] at e1 e2
              refine g_aload_n (pc := 111) (pl := 1) X dX7_look_111 rfl ?_
              refine g_dup (pc := 112) X dX7_look_112 rfl ?_
              refine g_getf (pc := 113) X zF_X7_look_18 hO rfl dX7_look_113 ?_
              refine g_iconst (pc := 116) X dX7_look_116 ?_
              refine g_iadd (pc := 117) X dX7_look_117 ?_
              refine g_putf (pc := 118) X zW_X7_look_18 hO (by omega) rfl rfl rfl dX7_look_118 (fun H4 hOn hf4 => ?_)
              replace hNO := hNO.fr hf4 (by omega)
              replace hFO := hFO.fr hf4 (by omega)
              replace hF := hF.fr hf4 (by omega)
              replace hW := hW.fr hf4 (by omega)
              replace hA := hA.fr hf4 (by omega)
              replace hB := hB.fr hf4 (by omega)
              replace hO : Ob D q 7 [.int (J g1), .int (J g2), .int (J (g3 + 1))] H4 := hOn
              clear hOn
              refine g_iinc (pc := 121) (pl := 5) (x := pi) (lv' := [(4, _), (5, _), (0, _), (1, _), (2, _), (3, _)]) X dX7_look_121 rfl (by decide) rfl ?_
              refine g_goto (pc := 124) X 28 dX7_look_124 (by decide) ?_
              refine G.pick [2, 3, 4, 5, 0] (lv' := [(0, _), (1, _), (2, _), (3, _), (4, _)]) rfl ?_
              exact ih28 (p + 1) _ _ _ _ H4 (by omega) (by omega) (by omega) hO hF hNO hW hA hB (Fr.trans (h3.wide (by omega) (by omega)) (hf4.wide (by omega) (by omega)))
            · skip
              rw [if_pos (by omega)] at e1 e2
              refine g_aload_n (pc := 99) (pl := 1) X dX7_look_99 rfl ?_
              refine g_iload (pc := 100) (pl := 5) X dX7_look_100 rfl ?_
              refine g_putf (pc := 102) X zW_X7_look_9 hO (by omega) rfl rfl rfl dX7_look_102 (fun H4 hOn hf4 => ?_)
              replace hNO := hNO.fr hf4 (by omega)
              replace hFO := hFO.fr hf4 (by omega)
              replace hF := hF.fr hf4 (by omega)
              replace hW := hW.fr hf4 (by omega)
              replace hA := hA.fr hf4 (by omega)
              replace hB := hB.fr hf4 (by omega)
              replace hO : Ob D q 7 [.int (J pi), .int (J g2), .int (J g3)] H4 := hOn
              clear hOn
              refine g_aload_n (pc := 105) (pl := 1) X dX7_look_105 rfl ?_
              refine g_iload (pc := 106) (pl := 0) X dX7_look_106 rfl ?_
              refine g_putf (pc := 108) X zW_X7_look_15 hO (by omega) rfl rfl rfl dX7_look_108 (fun H5 hOn hf5 => ?_)
              replace hNO := hNO.fr hf5 (by omega)
              replace hFO := hFO.fr hf5 (by omega)
              replace hF := hF.fr hf5 (by omega)
              replace hW := hW.fr hf5 (by omega)
              replace hA := hA.fr hf5 (by omega)
              replace hB := hB.fr hf5 (by omega)
              replace hO : Ob D q 7 [.int (J pi), .int (J ((alk n f (pi - 1) (-1) a al) + (alk n f (pi + wl) 1 b bl))), .int (J g3)] H5 := hOn
              clear hOn
              refine g_aload_n (pc := 111) (pl := 1) X dX7_look_111 rfl ?_
              refine g_dup (pc := 112) X dX7_look_112 rfl ?_
              refine g_getf (pc := 113) X zF_X7_look_18 hO rfl dX7_look_113 ?_
              refine g_iconst (pc := 116) X dX7_look_116 ?_
              refine g_iadd (pc := 117) X dX7_look_117 ?_
              refine g_putf (pc := 118) X zW_X7_look_18 hO (by omega) rfl rfl rfl dX7_look_118 (fun H6 hOn hf6 => ?_)
              replace hNO := hNO.fr hf6 (by omega)
              replace hFO := hFO.fr hf6 (by omega)
              replace hF := hF.fr hf6 (by omega)
              replace hW := hW.fr hf6 (by omega)
              replace hA := hA.fr hf6 (by omega)
              replace hB := hB.fr hf6 (by omega)
              replace hO : Ob D q 7 [.int (J pi), .int (J ((alk n f (pi - 1) (-1) a al) + (alk n f (pi + wl) 1 b bl))), .int (J (g3 + 1))] H6 := hOn
              clear hOn
              refine g_iinc (pc := 121) (pl := 5) (x := pi) (lv' := [(4, _), (5, _), (0, _), (1, _), (2, _), (3, _)]) X dX7_look_121 rfl (by decide) rfl ?_
              refine g_goto (pc := 124) X 28 dX7_look_124 (by decide) ?_
              refine G.pick [2, 3, 4, 5, 0] (lv' := [(0, _), (1, _), (2, _), (3, _), (4, _)]) rfl ?_
              exact ih28 (p + 1) _ _ _ _ H6 (by omega) (by omega) (by omega) hO hF hNO hW hA hB (Fr.trans (h3.wide (by omega) (by omega)) (Fr.trans (hf4.wide (by omega) (by omega)) (Fr.trans (hf5.wide (by omega) (by omega)) (hf6.wide (by omega) (by omega)))))
  refine G.pick [2, 3, 4, 1, 0] (lv' := [(0, _), (1, _), (2, _), (3, _), (4, _)]) rfl ?_
  exact hL28 _ 0 _ _ _ _ H3 (Nat.lt_succ_self _) (by omega) ⟨rfl, rfl, rfl⟩ hO hF hNO hW hA hB (Fr.trans (hf1.wide (by omega) (by omega)) (Fr.trans (hf2.wide (by omega) (by omega)) (hf3.wide (by omega) (by omega))))


abbrev rm_X4_remove : Room := { frames := 2, cells := 0, slots := 0, locals := 43 }
theorem cs_X4_remove_51 : zCV RX4 wsX4_remove 51 4 yX4_find wsX4_find cX4_find 2 (some (.object "AnchoredNotes$Note")) rm_X4_remove rm_X4_find 1 := ⟨_, _, gX4_remove_X4_find, rfl, ⟨by decide +kernel, by decide +kernel, by decide +kernel⟩, ⟨Nat.le_of_ble_eq_true rfl, Nat.le_of_ble_eq_true rfl⟩, rfl, rfl⟩
theorem zF_X4_remove_47 : zF RX4 wsX4_remove 4 4 47 := ⟨RX4, TX4, 6, rfl, by decide +kernel, by decide, by decide +kernel⟩
theorem zW_X4_remove_47 : zW RX4 wsX4_remove 4 4 47 false (tyX4 4) := ⟨RX4, TX4, 6, tyX4, rfl, by decide +kernel, by decide, by decide +kernel, tyX4_ok, nmX4, rfl, rfl, rfl⟩
theorem zF_X4_remove_28 : zF RX4 wsX4_remove 4 3 28 := ⟨RX4, TX4, 6, rfl, by decide +kernel, by decide, by decide +kernel⟩
theorem zF_X4_remove_23 : zF RX4 wsX4_remove 4 2 23 := ⟨RX4, TX4, 6, rfl, by decide +kernel, by decide, by decide +kernel⟩
theorem zF_X4_remove_76 : zF RX4 wsX4_remove 6 1 76 := ⟨RX6, TX6, 2, rfl, by decide +kernel, by decide, by decide +kernel⟩
theorem cs_X4_remove_69 : zCV RX4 wsX4_remove 69 6 yX6_item wsX6_item cX6_item 2 (some .int) rm_X4_remove rm_X6_item 1 := ⟨_, _, gX4_remove_X6_item, rfl, ⟨by decide +kernel, by decide +kernel, by decide +kernel⟩, ⟨Nat.le_of_ble_eq_true rfl, Nat.le_of_ble_eq_true rfl⟩, rfl, rfl⟩
theorem cs_X4_remove_72 : zCV RX4 wsX4_remove 72 6 yX6_replace wsX6_replace cX6_replace 3 none rm_X4_remove rm_X6_replace 2 := ⟨_, _, gX4_remove_X6_replace, rfl, ⟨by decide +kernel, by decide +kernel, by decide +kernel⟩, ⟨Nat.le_of_ble_eq_true rfl, Nat.le_of_ble_eq_true rfl⟩, rfl, rfl⟩
theorem zF_X4_remove_125 : zF RX4 wsX4_remove 2 0 125 := ⟨RX2, TX2, 4, rfl, by decide +kernel, by decide, by decide +kernel⟩
theorem zW_X4_remove_125 : zW RX4 wsX4_remove 2 0 125 false (tyX2 0) := ⟨RX2, TX2, 4, tyX2, rfl, by decide +kernel, by decide, by decide +kernel, tyX2_ok, nmX2, rfl, rfl, rfl⟩
set_option maxRecDepth 100000 in
theorem c_X4_remove (l : Launch) (D : zD) (base : Nat) (q : Nat) (g : Int → Int) (k : Int) (hq : base ≤ q) (hk : 0 ≤ k ∧ k < g 1) (how : ∀ j : Int, 0 ≤ j → j < g 0 → 0 ≤ OW g j ∧ OW g j < 65536) (hl : ∀ i : Int, 0 ≤ i → i < g 1 → g (125 + 80 * i) = -6 → g (126 + 80 * i) ≤ 60 ∧ g (187 + 80 * i) ≤ 8 ∧ g (196 + 80 * i) ≤ 8) : Ct l yX4_remove wsX4_remove rm_X4_remove D base [.ref q, .int (J k)] (fun H => PageAt D q g H) (PV (fun H H1 => PageAt D q (rmG g k) H1 ∧ Fr (Iv q (q + 121)) 0 H H1)) := by
  refine Ct.of (own := RX4) (cc := cX4_remove) (maxL := 6) (by decide +kernel) rfl (Nat.le_of_ble_eq_true rfl) rfl ?_
  intro K H X R hH hnm hP
  show G K 0 0 H 0 [(0, .ref q), (1, .int (J k))] []
  have hPg := hP
  obtain ⟨hO, hS, hL, hW, hN, hQ, hk0, hk1⟩ := hP
  obtain ⟨pi, hRa, hpi, hNt⟩ := hN.op
  have hbw := hW.bd
  have hp2 : 1 ≤ 2 ^ k.toNat := Nat.one_le_two_pow
  have hp3 : 2 ^ k.toNat < 2 ^ 16 := Nat.pow_lt_pow_right (by decide) (by omega)
  refine g_aload_n (pc := 0) (pl := 0) X dX4_remove_0 rfl ?_
  refine g_iload_n (pc := 1) (pl := 1) X dX4_remove_1 rfl ?_
  refine gVr (pc := 2) (n2 := 0) (k2 := 0) X cs_X4_remove_51 (c_X4_find (zl K) D base q (g 1) k pi (by omega) (by omega) (by omega)) rfl hO (by omega) ⟨hO, hRa⟩ rfl ⟨Nat.le_of_ble_eq_true rfl, Nat.le_of_ble_eq_true rfl⟩ dX4_remove_2 (Nat.le_of_ble_eq_true rfl) rfl rfl (fun v2 H1 hp2 hs2 => ?_)
  obtain ⟨rfl, rfl⟩ := hp2
  rw [fnd_in (q := q) (pi := pi) (k := (g 1)) (i := k) (by omega)]
  refine g_astore_n (pc := 5) (lv' := [(2, _), (0, _), (1, _)]) X dX4_remove_5 (by decide) rfl ?_
  refine g_aload_n (pc := 6) (pl := 0) X dX4_remove_6 rfl ?_
  refine g_ifnonnull (pc := 7) X 11 dX4_remove_7 (by decide) ?_
  refine g_aload_n (pc := 11) (pl := 1) X dX4_remove_11 rfl ?_
  refine g_dup (pc := 12) X dX4_remove_12 rfl ?_
  refine g_getf (pc := 13) X zF_X4_remove_47 hO rfl dX4_remove_13 ?_
  refine g_iconst (pc := 16) X dX4_remove_16 ?_
  refine g_isub (pc := 17) X dX4_remove_17 ?_
  refine g_putf (pc := 18) X zW_X4_remove_47 hO (by omega) rfl rfl rfl dX4_remove_18 (fun H1 hOn hf1 => ?_)
  replace hRa := hRa.fr hf1 (by omega)
  replace hS := hS.fr hf1 (by omega)
  replace hL := hL.fr hf1 (by omega)
  replace hW := hW.fr hf1 (by omega)
  replace hQ := hQ.fr hf1 (by omega)
  replace hNt := hNt.fr hf1 ⟨hpi, by omega⟩
  replace hO : Ob D q 4 [.ref (q + 1), .ref (q + 3), .ref (q + 5), .ref (q + 7), .int (J ((g 1) - 1)), .ref (q + 8)] H1 := hOn
  clear hOn
  refine g_iload_n (pc := 21) (pl := 2) X dX4_remove_21 rfl ?_
  refine g_istore_n (pc := 22) (lv' := [(3, _), (2, _), (0, _), (1, _)]) X dX4_remove_22 (by decide) rfl ?_
  have hL23 : ∀ (fu : Nat) (x : Int) (Hx : Heap), (g 1 - x).toNat < fu → (k ≤ x ∧ x ≤ g 1 - 1) → (PgO D q (g 1 - 1) Hx) → (RowAt D (q + 1) 3 3 (fun i => g (2 + i)) Hx) → (RowAt D (q + 3) 60 (g 0) (LT g) Hx) → (RowAt D (q + 5) 60 (g 0) (OW g) Hx) → (Ra D (q + 7) 2 16 (fun i => some (q + 9 + 7 * shp pi k x i)) Hx) → (NtsRm D q g pi k x Hx) → (PgP D q Hx) → (Fr (Iv q (q + 121)) 0 H Hx) → G K 0 0 Hx 23 [(0, .ref q), (1, .int (J k)), (2, .ref (q + 9 + 7 * pi k)), (3, .int (J x))] [] := by
    intro fu
    induction fu with
    | zero => intro x Hx hm; exact absurd hm (Nat.not_lt_zero _)
    | succ fu ih23 =>
      intro x Hx hm h1 hO hS hL hW hRa hNt hQ h3
      refine g_iload_n (pc := 23) (pl := 3) X dX4_remove_23 rfl ?_
      refine g_aload_n (pc := 24) (pl := 0) X dX4_remove_24 rfl ?_
      refine g_getf (pc := 25) X zF_X4_remove_47 hO rfl dX4_remove_25 ?_
      refine g_icmp_ge (pc := 28) X 91 dX4_remove_28 (by decide) (by omega) (by omega) (fun c28 => ?_) (fun c28 => ?_)
      · skip
        refine g_aload_n (pc := 91) (pl := 0) X dX4_remove_91 rfl ?_
        refine g_getf (pc := 92) X zF_X4_remove_47 hO rfl dX4_remove_92 ?_
        refine g_aload_n (pc := 95) (pl := 0) X dX4_remove_95 rfl ?_
        refine g_getf (pc := 96) X zF_X4_remove_28 hO rfl dX4_remove_96 ?_
        refine g_alenR (pc := 99) X hRa (by decide) dX4_remove_99 ?_
        refine g_icmp_ge (pc := 100) X 113 dX4_remove_100 (by decide) (by omega) (by omega) (fun c100 => ?_) (fun c100 => ?_)
        · skip
          omega
        · skip
          refine g_aload_n (pc := 103) (pl := 0) X dX4_remove_103 rfl ?_
          refine g_getf (pc := 104) X zF_X4_remove_28 hO rfl dX4_remove_104 ?_
          refine g_aload_n (pc := 107) (pl := 0) X dX4_remove_107 rfl ?_
          refine g_getf (pc := 108) X zF_X4_remove_47 hO rfl dX4_remove_108 ?_
          refine g_aload_n (pc := 111) (pl := 2) X dX4_remove_111 rfl ?_
          have exc : x = g 1 - 1 := by omega
          subst exc
          have hpk := hpi.1 k (by omega) (by omega)
          obtain ⟨t0, wl0, al0, bl0, w0, na0, nb0, ⟨hNO0, -⟩, -⟩ := hNt k (by omega) (by omega)
          refine g_aastore (pc := 112) X hRa (by decide) hNO0 (by omega) (by omega) (by omega) (by omega) dX4_remove_112 (fun H2 hRan hf2 => ?_)
          replace hO := hO.fr hf2 (by omega)
          replace hS := hS.fr hf2 (by omega)
          replace hL := hL.fr hf2 (by omega)
          replace hW := hW.fr hf2 (by omega)
          replace hQ := hQ.fr hf2 (by omega)
          replace hNt := hNt.fr hf2 ⟨hpi, by omega⟩
          replace hRa := hRan
          clear hRan
          rw [shp_end q pi] at hRa
          refine g_iconst (pc := 113) X dX4_remove_113 ?_
          refine g_iload_n (pc := 114) (pl := 1) X dX4_remove_114 rfl ?_
          refine g_ishl (pc := 115) (z := J ((2 ^ k.toNat : Nat) : Int)) X dX4_remove_115 ((J_shl (by omega) (by omega)).trans (by rw [show (1 : Int).toNat = 1 from rfl, Nat.one_mul])) ?_
          refine g_iconst (pc := 116) X dX4_remove_116 ?_
          refine g_isub (pc := 117) X dX4_remove_117 ?_
          refine g_istore_n (pc := 118) (lv' := [(3, _), (0, _), (1, _), (2, _)]) X dX4_remove_118 (by decide) rfl ?_
          refine g_iconst (pc := 119) X dX4_remove_119 ?_
          refine g_istore (pc := 120) (lv' := [(4, _), (3, _), (0, _), (1, _), (2, _)]) X dX4_remove_120 (by decide) rfl ?_
          have hL122 : ∀ (fu : Nat) (y : Int) (Hy : Heap), (g 0 - y).toNat < fu → (0 ≤ y ∧ y ≤ g 0) → (PgO D q (g 1 - 1) Hy) → (RowAt D (q + 1) 3 3 (fun i => g (2 + i)) Hy) → (RowAt D (q + 3) 60 (g 0) (LT g) Hy) → (RowAt D (q + 5) 60 (g 0) (fun j => if j < y then dropB (OW g j) k else OW g j) Hy) → (Ra D (q + 7) 2 16 (fun i => some (q + 9 + 7 * fin pi k (g 1 - 1) i)) Hy) → (NtsRm D q g pi k (g 1 - 1) Hy) → (PgP D q Hy) → (Fr (Iv q (q + 121)) 0 H Hy) → G K 0 0 Hy 122 [(0, .ref q), (1, .int (J k)), (3, .int (J (((2 ^ k.toNat : Nat) : Int) - 1))), (4, .int (J y))] [] := by
            intro fu
            induction fu with
            | zero => intro y Hy hm; exact absurd hm (Nat.not_lt_zero _)
            | succ fu ih122 =>
              intro y Hy hm h2 hO hS hL hW hRa hNt hQ h3
              refine g_iload (pc := 122) (pl := 3) X dX4_remove_122 rfl ?_
              refine g_aload_n (pc := 124) (pl := 0) X dX4_remove_124 rfl ?_
              refine g_getf (pc := 125) X zF_X4_remove_23 hO rfl dX4_remove_125 ?_
              obtain ⟨hRO, -⟩ := id hW
              refine g_getf (pc := 128) X zF_X4_remove_76 hRO rfl dX4_remove_128 ?_
              refine g_icmp_ge (pc := 131) X 173 dX4_remove_131 (by decide) (by omega) (by omega) (fun c131 => ?_) (fun c131 => ?_)
              · skip
                refine g_vret (pc := 173) X R hH dX4_remove_173 ?_
                refine ⟨⟨hO, hS.congr (fun j h0 h1 => (rmG_lo (by omega) (by omega)).symm), ?_, ?_, PgN.close hRa (fin_I hpi hk.1 (by omega) (by omega)) (hNt.done (by omega) hl), hQ, ?_, ?_⟩, h3⟩
                · rw [rmG_lo (by omega) (by omega)]; exact hL.congr (fun j h0 h1 => (rmG_lo (j := 5 + j) (by omega) (by omega)).symm)
                · rw [rmG_lo (by omega) (by omega)]; exact hW.congr (fun j h0 h1 => by show (if j < y then _ else _) = rmG g k (65 + j); rw [if_pos (by omega), rmG_own h0 (by omega)])
                · rw [rmG_1]; omega
                · rw [rmG_1]; omega
              · skip
                refine g_aload_n (pc := 134) (pl := 0) X dX4_remove_134 rfl ?_
                refine g_getf (pc := 135) X zF_X4_remove_23 hO rfl dX4_remove_135 ?_
                refine g_iload (pc := 138) (pl := 3) X dX4_remove_138 rfl ?_
                obtain ⟨hRO, -⟩ := id hW
                refine gVi (pc := 140) (n2 := 0) (k2 := 0) X cs_X4_remove_69 (c_X6_item (zl K) D base (q + 5) 60 (g 0) (fun j => if j < y then dropB (OW g j) k else OW g j) y (by omega)) rfl hRO (by omega) hW rfl ⟨Nat.le_of_ble_eq_true rfl, Nat.le_of_ble_eq_true rfl⟩ dX4_remove_140 (Nat.le_of_ble_eq_true rfl) rfl rfl (fun v140 H3 hp140 hs140 => ?_)
                obtain ⟨rfl, rfl⟩ := hp140
                rw [show itm (g 0) (fun j => if j < y then dropB (OW g j) k else OW g j) y = OW g y from by unfold itm; rw [if_pos (by omega)]; exact if_neg (by omega)]
                have hoy := how y (by omega) (by omega)
                refine g_istore (pc := 143) (lv' := [(5, _), (0, _), (1, _), (3, _), (4, _)]) X dX4_remove_143 (by decide) rfl ?_
                refine g_aload_n (pc := 145) (pl := 1) X dX4_remove_145 rfl ?_
                refine g_getf (pc := 146) X zF_X4_remove_23 hO rfl dX4_remove_146 ?_
                refine g_iload (pc := 149) (pl := 4) X dX4_remove_149 rfl ?_
                refine g_iload (pc := 151) (pl := 0) X dX4_remove_151 rfl ?_
                refine g_iload_n (pc := 153) (pl := 3) X dX4_remove_153 rfl ?_
                refine g_iand (pc := 154) (z := J (((OW g y).toNat &&& (2 ^ k.toNat - 1) : Nat) : Int)) X dX4_remove_154 ((J_and (by omega) (by omega)).trans (by rw [show (((2 ^ k.toNat : Nat) : Int) - 1).toNat = 2 ^ k.toNat - 1 by omega])) ?_
                refine g_iload (pc := 155) (pl := 0) X dX4_remove_155 rfl ?_
                refine g_iconst (pc := 157) X dX4_remove_157 ?_
                refine g_ishr (pc := 158) (z := J (((OW g y).toNat / 2 : Nat) : Int)) X dX4_remove_158 ((J_shr (by omega) (by omega)).trans (by rw [show (1 : Int).toNat = 1 from rfl, Nat.pow_one])) ?_
                refine g_iload_n (pc := 159) (pl := 3) X dX4_remove_159 rfl ?_
                refine g_iconst (pc := 160) X dX4_remove_160 ?_
                refine g_ixor (pc := 161) (z := J (((2 ^ k.toNat : Nat) : Int) - 1) ^^^ J (-1)) X dX4_remove_161 rfl ?_
                refine g_iand (pc := 162) (z := J (((OW g y).toNat / 2 &&& (65535 ^^^ (2 ^ k.toNat - 1)) : Nat) : Int)) X dX4_remove_162 ((J_andn (by omega) (by omega)).trans (by rw [Int.toNat_natCast, show (((2 ^ k.toNat : Nat) : Int) - 1).toNat = 2 ^ k.toNat - 1 by omega])) ?_
                refine g_ior (pc := 163) (z := J (dropB (OW g y) k)) X dX4_remove_163 ((J_or (by first | exact Int.natCast_nonneg _ | exact Int.ofNat_nonneg _) (by first | exact Int.natCast_nonneg _ | exact Int.ofNat_nonneg _)).trans (by unfold dropB; rw [Int.toNat_natCast, Int.toNat_natCast])) ?_
                obtain ⟨hRO, -⟩ := id hW
                refine gVv (pc := 164) (n2 := 0) (k2 := 0) X cs_X4_remove_72 (c_X6_replace (zl K) D base (q + 5) 60 (g 0) (fun j => if j < y then dropB (OW g j) k else OW g j) y (dropB (OW g y) k) (by omega) (by omega)) rfl hRO (by omega) hW rfl ⟨Nat.le_of_ble_eq_true rfl, Nat.le_of_ble_eq_true rfl⟩ dX4_remove_164 (Nat.le_of_ble_eq_true rfl) rfl rfl (fun H3 hp164 hs164 => ?_)
                obtain ⟨hWn, hfb⟩ := hp164
                replace hO := hO.fr hfb (by omega)
                replace hRa := hRa.fr hfb (by omega)
                replace hS := hS.fr hfb (by omega)
                replace hL := hL.fr hfb (by omega)
                replace hQ := hQ.fr hfb (by omega)
                replace hNt := hNt.fr hfb ⟨hpi, by omega⟩
                replace hW := hWn
                clear hWn
                refine g_iinc (pc := 167) (pl := 4) (x := y) (lv' := [(4, _), (5, _), (0, _), (1, _), (3, _)]) X dX4_remove_167 rfl (by decide) rfl ?_
                refine g_goto (pc := 170) X 122 dX4_remove_170 (by decide) ?_
                refine G.pick [2, 3, 4, 0] (lv' := [(0, _), (1, _), (3, _), (4, _)]) rfl ?_
                exact ih122 (y + 1) H3 (by omega) (by omega) hO hS hL (hW.congr (fun j h0 h1 => by simp only [up]; by_cases c : j = y; (rw [if_pos c, if_pos (by omega), c]); (rw [if_neg c]; by_cases c2 : j < y; (rw [if_pos c2, if_pos (by omega)]); (rw [if_neg c2, if_neg (by omega)])))) hRa hNt hQ (Fr.trans (h3.wide (by omega) (by omega)) (hfb.wide (by omega) (by omega)))
          refine G.pick [2, 3, 1, 0] (lv' := [(0, _), (1, _), (3, _), (4, _)]) rfl ?_
          exact hL122 _ 0 H2 (Nat.lt_succ_self _) (by omega) hO hS hL (hW.congr (fun j h0 h1 => by show _ = (if j < 0 then _ else _); rw [if_neg (by omega)])) hRa hNt hQ (Fr.trans (h3.wide (by omega) (by omega)) (hf2.wide (by omega) (by omega)))
      · skip
        refine g_iload_n (pc := 31) (pl := 3) X dX4_remove_31 rfl ?_
        refine g_iconst (pc := 32) X dX4_remove_32 ?_
        refine g_iadd (pc := 33) X dX4_remove_33 ?_
        refine g_aload_n (pc := 34) (pl := 0) X dX4_remove_34 rfl ?_
        refine g_getf (pc := 35) X zF_X4_remove_28 hO rfl dX4_remove_35 ?_
        refine g_alenR (pc := 38) X hRa (by decide) dX4_remove_38 ?_
        refine g_icmp_ge (pc := 39) X 91 dX4_remove_39 (by decide) (by omega) (by omega) (fun c39 => ?_) (fun c39 => ?_)
        · skip
          omega
        · skip
          refine g_aload_n (pc := 42) (pl := 0) X dX4_remove_42 rfl ?_
          refine g_getf (pc := 43) X zF_X4_remove_28 hO rfl dX4_remove_43 ?_
          refine g_iload_n (pc := 46) (pl := 3) X dX4_remove_46 rfl ?_
          refine g_iconst (pc := 47) X dX4_remove_47 ?_
          refine g_iadd (pc := 48) X dX4_remove_48 ?_
          refine g_aaload (pc := 49) (v := .ref (q + 9 + 7 * pi (x + 1))) X hRa (by decide) (by omega) (by omega) (by omega) (by show Value.ref (q + 9 + 7 * shp pi k x (x + 1)) = _; unfold shp; rw [if_neg (by omega)]) dX4_remove_49 ?_
          refine g_astore (pc := 50) (lv' := [(4, _), (0, _), (1, _), (2, _), (3, _)]) X dX4_remove_50 (by decide) rfl ?_
          refine g_aload_n (pc := 52) (pl := 1) X dX4_remove_52 rfl ?_
          refine g_getf (pc := 53) X zF_X4_remove_28 hO rfl dX4_remove_53 ?_
          refine g_iload_n (pc := 56) (pl := 4) X dX4_remove_56 rfl ?_
          refine g_aload (pc := 57) (pl := 0) X dX4_remove_57 rfl ?_
          have hpb := hpi.1 (x + 1) (by omega) (by omega)
          obtain ⟨t, wl, al, bl, w, na, nb, hNo, hrt, hni⟩ := hNt (x + 1) (by omega) (by omega)
          rw [show adj k x (x + 1) t = t from if_neg (by omega)] at hNo
          obtain ⟨hNO, hR1, hR2, hR3⟩ := hNo
          refine g_aastore (pc := 59) X hRa (by decide) hNO (by omega) (by omega) (by omega) (by omega) dX4_remove_59 (fun H2 hRan hf2 => ?_)
          replace hO := hO.fr hf2 (by omega)
          replace hNO := hNO.fr hf2 (by omega)
          replace hS := hS.fr hf2 (by omega)
          replace hL := hL.fr hf2 (by omega)
          replace hW := hW.fr hf2 (by omega)
          replace hQ := hQ.fr hf2 (by omega)
          replace hNt := hNt.fr hf2 ⟨hpi, by omega⟩
          replace hR1 := hR1.fr hf2 (by omega)
          replace hR2 := hR2.fr hf2 (by omega)
          replace hR3 := hR3.fr hf2 (by omega)
          replace hRa := hRan
          clear hRan
          rw [shp_step q pi (by omega)] at hRa
          refine g_aload (pc := 60) (pl := 0) X dX4_remove_60 rfl ?_
          refine g_ifnull (pc := 62) X dX4_remove_62 ?_
          refine g_aload (pc := 65) (pl := 0) X dX4_remove_65 rfl ?_
          refine g_getf (pc := 67) X zF_X4_remove_125 hNO rfl dX4_remove_67 ?_
          refine g_iload_n (pc := 70) (pl := 2) X dX4_remove_70 rfl ?_
          refine g_icmp_le (pc := 71) X 85 dX4_remove_71 (by decide) (by omega) (by omega) (fun c71 => ?_) (fun c71 => ?_)
          · skip
            refine g_iinc (pc := 85) (pl := 4) (x := x) (lv' := [(3, _), (4, _), (0, _), (1, _), (2, _)]) X dX4_remove_85 rfl (by decide) rfl ?_
            refine g_goto (pc := 88) X 23 dX4_remove_88 (by decide) ?_
            refine G.pick [2, 3, 4, 0] (lv' := [(0, _), (1, _), (2, _), (3, _)]) rfl ?_
            exact ih23 (x + 1) H2 (by omega) (by omega) hO hS hL hW hRa (hNt.step hpi (by omega) (Fr.refl _ _) ⟨t, wl, al, bl, w, na, nb, ⟨by rw [show adj k (x + 1) (x + 1) t = t from if_neg (by omega)]; exact hNO, hR1, hR2, hR3⟩, hrt, hni⟩) hQ (Fr.trans (h3.wide (by omega) (by omega)) (hf2.wide (by omega) (by omega)))
          · skip
            refine g_aload (pc := 74) (pl := 0) X dX4_remove_74 rfl ?_
            refine g_dup (pc := 76) X dX4_remove_76 rfl ?_
            refine g_getf (pc := 77) X zF_X4_remove_125 hNO rfl dX4_remove_77 ?_
            refine g_iconst (pc := 80) X dX4_remove_80 ?_
            refine g_isub (pc := 81) X dX4_remove_81 ?_
            refine g_putf (pc := 82) X zW_X4_remove_125 hNO (by omega) rfl rfl rfl dX4_remove_82 (fun H3 hNOn hf3 => ?_)
            replace hO := hO.fr hf3 (by omega)
            replace hRa := hRa.fr hf3 (by omega)
            replace hS := hS.fr hf3 (by omega)
            replace hL := hL.fr hf3 (by omega)
            replace hW := hW.fr hf3 (by omega)
            replace hQ := hQ.fr hf3 (by omega)
            replace hR1 := hR1.fr hf3 (by omega)
            replace hR2 := hR2.fr hf3 (by omega)
            replace hR3 := hR3.fr hf3 (by omega)
            replace hNO : Ob D (q + 9 + 7 * pi (x + 1)) 2 [.int (J (t - 1)), .ref (q + 9 + 7 * pi (x + 1) + 1), .ref (q + 9 + 7 * pi (x + 1) + 3), .ref (q + 9 + 7 * pi (x + 1) + 5)] H3 := hNOn
            clear hNOn
            refine g_iinc (pc := 85) (pl := 4) (x := x) (lv' := [(3, _), (4, _), (0, _), (1, _), (2, _)]) X dX4_remove_85 rfl (by decide) rfl ?_
            refine g_goto (pc := 88) X 23 dX4_remove_88 (by decide) ?_
            refine G.pick [2, 3, 4, 0] (lv' := [(0, _), (1, _), (2, _), (3, _)]) rfl ?_
            exact ih23 (x + 1) H3 (by omega) (by omega) hO hS hL hW hRa (hNt.step hpi (by omega) (hf3.wide (by omega) (by omega)) ⟨t, wl, al, bl, w, na, nb, ⟨by rw [show adj k (x + 1) (x + 1) t = t - 1 from if_pos (by omega)]; exact hNO, hR1, hR2, hR3⟩, hrt, hni⟩) hQ (Fr.trans (h3.wide (by omega) (by omega)) (Fr.trans (hf2.wide (by omega) (by omega)) (hf3.wide (by omega) (by omega))))
  refine G.pick [2, 3, 1, 0] (lv' := [(0, _), (1, _), (2, _), (3, _)]) rfl ?_
  exact hL23 _ k H1 (Nat.lt_succ_self _) (by omega) hO hS hL hW (by rw [shp_0]; exact hRa) (NtsRm.start hNt) hQ (hf1.wide (by omega) (by omega))


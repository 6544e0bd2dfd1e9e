abbrev rm_X4_dropFamily : Room := { frames := 3, cells := 0, slots := 0, locals := 68 }
theorem cs_X4_dropFamily_51 : zCV RX4 wsX4_dropFamily 51 4 yX4_find wsX4_find cX4_find 2 (some (.object "AnchoredNotes$Note")) rm_X4_dropFamily rm_X4_find 1 := ⟨_, _, gX4_dropFamily_X4_find, rfl, ⟨by decide +kernel, by decide +kernel, by decide +kernel⟩, ⟨Nat.le_of_ble_eq_true rfl, Nat.le_of_ble_eq_true rfl⟩, rfl, rfl⟩
theorem cs_X4_dropFamily_115 : zCV RX4 wsX4_dropFamily 115 4 yX4_family wsX4_family cX4_family 5 (some .int) rm_X4_dropFamily rm_X4_family 1 := ⟨_, _, gX4_dropFamily_X4_family, rfl, ⟨by decide +kernel, by decide +kernel, by decide +kernel⟩, ⟨Nat.le_of_ble_eq_true rfl, Nat.le_of_ble_eq_true rfl⟩, rfl, rfl⟩
theorem zF_X4_dropFamily_47 : zF RX4 wsX4_dropFamily 4 4 47 := ⟨RX4, TX4, 6, rfl, by decide +kernel, by decide, by decide +kernel⟩
theorem cs_X4_dropFamily_89 : zCJ RX4 wsX4_dropFamily 89 yJ6_bitCount_0f7a4 wsJ6_bitCount_0f7a4 cJ6_bitCount_0f7a4 1 (some .int) rm_X4_dropFamily rm_J6_bitCount_0f7a4 1 := ⟨_, gX4_dropFamily_J6_bitCount_0f7a4, rfl, ⟨by decide +kernel, by decide +kernel, by decide +kernel⟩, ⟨Nat.le_of_ble_eq_true rfl, Nat.le_of_ble_eq_true rfl⟩⟩
theorem cs_X4_dropFamily_118 : zCN RX4 wsX4_dropFamily 118 yX8_isIn wsX8_isIn cX8_isIn 2 (some .boolean) rm_X4_dropFamily rm_X8_isIn 2 := ⟨_, _, gX4_dropFamily_X8_isIn_n118, (by decide +kernel : Cond.methodLinkNest RX4 118 yX8_isIn RX8 ∈ zNest), by decide +kernel, by decide +kernel, rfl, ⟨by decide +kernel, by decide +kernel, by decide +kernel⟩, ⟨Nat.le_of_ble_eq_true rfl, Nat.le_of_ble_eq_true rfl⟩⟩
theorem cs_X4_dropFamily_122 : zCV RX4 wsX4_dropFamily 122 4 yX4_remove wsX4_remove cX4_remove 6 none rm_X4_dropFamily rm_X4_remove 1 := ⟨_, _, gX4_dropFamily_X4_remove, rfl, ⟨by decide +kernel, by decide +kernel, by decide +kernel⟩, ⟨Nat.le_of_ble_eq_true rfl, Nat.le_of_ble_eq_true rfl⟩, rfl, rfl⟩
set_option maxRecDepth 100000 in
theorem c_X4_dropFamily (l : Launch) (D : zD) (base : Nat) (q : Nat) (g : Int → Int) (n : Int) (hq : base ≤ q) (hI : PInv g) (hn : rg n) : Ct l yX4_dropFamily wsX4_dropFamily rm_X4_dropFamily D base [.ref q, .int (J n)] (fun H => PageAt D q g H) (PI (fun H v H1 => dpR g n = v ∧ PageAt D q (dpG g n) H1 ∧ Fr (Iv q (q + 121)) 0 H H1)) := by
  refine Ct.of (own := RX4) (cc := cX4_dropFamily) (maxL := 4) (by decide +kernel) rfl (Nat.le_of_ble_eq_true rfl) rfl ?_
  intro K H X R hH hnm hP
  show G K 0 0 H 0 [(0, .ref q), (1, .int (J n))] []
  have hPg := hP
  obtain ⟨hO, hS, hL, hW, hN, hQ, hk0, hk1⟩ := hP
  have hnum := hI.nums
  obtain ⟨pi, hRa, hpi, hNt⟩ := hN.op
  refine g_aload_n (pc := 0) (pl := 0) X dX4_dropFamily_0 rfl ?_
  refine g_iload_n (pc := 1) (pl := 1) X dX4_dropFamily_1 rfl ?_
  by_cases hc : 0 ≤ n ∧ n < g 1
  · skip
    refine gVr (pc := 2) (n2 := 0) (k2 := 0) X cs_X4_dropFamily_51 (c_X4_find (zl K) D base q (g 1) n pi (by omega) (by omega) (by omega)) rfl hO (by omega) ⟨hO, hRa⟩ rfl ⟨Nat.le_of_ble_eq_true rfl, Nat.le_of_ble_eq_true rfl⟩ dX4_dropFamily_2 (Nat.le_of_ble_eq_true rfl) rfl rfl (fun v2 H1 hp2 hs2 => ?_)
    obtain ⟨rfl, rfl⟩ := hp2
    rw [fnd_in (q := q) (pi := pi) (k := (g 1)) (i := n) (by omega)]
    refine g_ifnonnull (pc := 5) X 10 dX4_dropFamily_5 (by decide) ?_
    refine g_aload_n (pc := 10) (pl := 0) X dX4_dropFamily_10 rfl ?_
    refine g_iload_n (pc := 11) (pl := 1) X dX4_dropFamily_11 rfl ?_
    refine gVi (pc := 12) (n2 := 0) (k2 := 0) X cs_X4_dropFamily_115 (c_X4_family (zl K) D base q g n hq hI hc) rfl hO (by omega) hPg rfl ⟨Nat.le_of_ble_eq_true rfl, Nat.le_of_ble_eq_true rfl⟩ dX4_dropFamily_12 (Nat.le_of_ble_eq_true rfl) rfl rfl (fun v12 H1 hp12 hs12 => ?_)
    obtain ⟨rfl, rfl⟩ := hp12
    have hfb : 0 ≤ famS g n ∧ famS g n < 65536 := by have := fam_bd (g := g) (n := n) hc.1 (g 1 - 1 - n).toNat (by omega); unfold famS; omega
    refine g_istore_n (pc := 15) (lv' := [(2, _), (0, _), (1, _)]) X dX4_dropFamily_15 (by decide) rfl ?_
    refine g_aload_n (pc := 16) (pl := 1) X dX4_dropFamily_16 rfl ?_
    refine g_getf (pc := 17) X zF_X4_dropFamily_47 hO rfl dX4_dropFamily_17 ?_
    refine g_iconst (pc := 20) X dX4_dropFamily_20 ?_
    refine g_isub (pc := 21) X dX4_dropFamily_21 ?_
    refine g_istore_n (pc := 22) (lv' := [(3, _), (2, _), (0, _), (1, _)]) X dX4_dropFamily_22 (by decide) rfl ?_
    have hL23 : ∀ (fu : Nat) (i : Int) (gc : Int → Int) (Hx : Heap), (i + 1 - n).toNat < fu → (n - 1 ≤ i ∧ i < gc 1) → (PageAt D q gc Hx) → (∀ j : Int, 0 ≤ j → j < gc 0 → 0 ≤ OW gc j ∧ OW gc j < 65536) → (∀ i : Int, 0 ≤ i → i < gc 1 → gc (125 + 80 * i) = -6 → gc (126 + 80 * i) ≤ 60 ∧ gc (187 + 80 * i) ≤ 8 ∧ gc (196 + 80 * i) ≤ 8) → (drp (famS g n) (i + 1 - n).toNat n gc = drp (famS g n) (g 1 - n).toNat n g) → (Fr (Iv q (q + 121)) 0 H Hx) → G K 0 0 Hx 23 [(0, .ref q), (1, .int (J n)), (2, .int (J (famS g n))), (3, .int (J i))] [] := by
      intro fu
      induction fu with
      | zero => intro i gc Hx hm; exact absurd hm (Nat.not_lt_zero _)
      | succ fu ih23 =>
        intro i gc Hx hm h1 hX how hl hd h3
        obtain ⟨hO, -, hLx, -, -, -, hk0x, hk1x⟩ := id hX
        have hbx := hLx.bd
        refine g_iload_n (pc := 23) (pl := 3) X dX4_dropFamily_23 rfl ?_
        refine g_iload_n (pc := 24) (pl := 1) X dX4_dropFamily_24 rfl ?_
        refine g_icmp_lt (pc := 25) X 47 dX4_dropFamily_25 (by decide) (by omega) (by omega) (fun c25 => ?_) (fun c25 => ?_)
        · skip
          refine g_iload_n (pc := 47) (pl := 2) X dX4_dropFamily_47 rfl ?_
          rw [show famS g n = ((famS g n).toNat : Int) by omega]
          refine gJi (pc := 48) (n2 := 0) (k2 := 0) X cs_X4_dropFamily_89 (c_J6_bitCount (zl K) D base (famS g n).toNat (by omega)) rfl (by have := hO.lt; omega) trivial rfl ⟨Nat.le_of_ble_eq_true rfl, Nat.le_of_ble_eq_true rfl⟩ dX4_dropFamily_48 (Nat.le_of_ble_eq_true rfl) rfl rfl (fun v48 H1 hp48 hs48 => ?_)
          obtain ⟨rfl, rfl⟩ := hp48
          refine g_iret (pc := 51) X R hH dX4_dropFamily_51 ?_
          have hnc : ¬ ¬ isN g n := fun z => z hc
          rw [show (i + 1 - n).toNat = 0 by omega] at hd
          refine ⟨?_, ?_, h3⟩
          · unfold dpR; rw [if_neg hnc, Int.toNat_of_nonneg (by omega)]
          · rw [show dpG g n = gc from (if_neg hnc).trans hd.symm]; exact hX
        · skip
          refine g_iload_n (pc := 28) (pl := 2) X dX4_dropFamily_28 rfl ?_
          refine g_iload_n (pc := 29) (pl := 3) X dX4_dropFamily_29 rfl ?_
          refine gNi (pc := 30) (n2 := 0) (k2 := 0) X cs_X4_dropFamily_118 (c_X8_isIn (zl K) D base (famS g n) i (by omega) (by omega)) rfl (by have := hO.lt; omega) trivial rfl ⟨Nat.le_of_ble_eq_true rfl, Nat.le_of_ble_eq_true rfl⟩ dX4_dropFamily_30 (Nat.le_of_ble_eq_true rfl) rfl rfl (fun v30 H1 hp30 hs30 => ?_)
          obtain ⟨rfl, rfl⟩ := hp30
          refine g_if_eq (pc := 33) X 41 dX4_dropFamily_33 (by decide) (zbr _) (fun c33 => ?_) (fun c33 => ?_)
          · skip
            replace c33 := zb0 c33
            rw [drp_step (by omega), if_neg c33] at hd
            refine g_iinc (pc := 41) (pl := 3) (x := i) (lv' := [(3, _), (0, _), (1, _), (2, _)]) X dX4_dropFamily_41 rfl (by decide) rfl ?_
            refine g_goto (pc := 44) X 23 dX4_dropFamily_44 (by decide) ?_
            refine G.pick [1, 2, 3, 0] (lv' := [(0, _), (1, _), (2, _), (3, _)]) rfl ?_
            exact ih23 (i + (-1)) gc Hx (by omega) (by omega) hX how hl (by rw [show i + (-1) + 1 - n = i - n by omega]; exact hd) (h3.wide (by omega) (by omega))
          · skip
            replace c33 := zb1 c33
            rw [drp_step (by omega), if_pos c33] at hd
            refine g_aload_n (pc := 36) (pl := 0) X dX4_dropFamily_36 rfl ?_
            refine g_iload_n (pc := 37) (pl := 3) X dX4_dropFamily_37 rfl ?_
            refine gVv (pc := 38) (n2 := 0) (k2 := 0) X cs_X4_dropFamily_122 (c_X4_remove (zl K) D base q gc i hq (by omega) how hl) rfl hO (by omega) hX rfl ⟨Nat.le_of_ble_eq_true rfl, Nat.le_of_ble_eq_true rfl⟩ dX4_dropFamily_38 (Nat.le_of_ble_eq_true rfl) rfl rfl (fun H1 hp38 hs38 => ?_)
            obtain ⟨hX2, hfa⟩ := hp38
            clear hO
            refine g_iinc (pc := 41) (pl := 3) (x := i) (lv' := [(3, _), (0, _), (1, _), (2, _)]) X dX4_dropFamily_41 rfl (by decide) rfl ?_
            refine g_goto (pc := 44) X 23 dX4_dropFamily_44 (by decide) ?_
            refine G.pick [1, 2, 3, 0] (lv' := [(0, _), (1, _), (2, _), (3, _)]) rfl ?_
            exact ih23 (i + (-1)) (rmG gc i) H1 (by omega) (by rw [rmG_1]; omega) hX2 (how_rm (by omega) how) (hl_rm (by omega) hl) (by rw [show i + (-1) + 1 - n = i - n by omega]; exact hd) (Fr.trans (h3.wide (by omega) (by omega)) (hfa.wide (by omega) (by omega)))
    refine G.pick [2, 3, 1, 0] (lv' := [(0, _), (1, _), (2, _), (3, _)]) rfl ?_
    exact hL23 _ (g 1 - 1) g H (Nat.lt_succ_self _) (by omega) hPg hI.own (fun i h0 h1 h2 => by have := hI.nt h0 h1 h2; omega) (by rw [show g 1 - 1 + 1 - n = g 1 - n by omega]) (Fr.refl _ _)
  · skip
    refine gVr (pc := 2) (n2 := 0) (k2 := 0) X cs_X4_dropFamily_51 (c_X4_find (zl K) D base q (g 1) n pi (by omega) (by omega) (by omega)) rfl hO (by omega) ⟨hO, hRa⟩ rfl ⟨Nat.le_of_ble_eq_true rfl, Nat.le_of_ble_eq_true rfl⟩ dX4_dropFamily_2 (Nat.le_of_ble_eq_true rfl) rfl rfl (fun v2 H1 hp2 hs2 => ?_)
    obtain ⟨rfl, rfl⟩ := hp2
    rw [fnd_out (q := q) (pi := pi) (k := (g 1)) (i := n) (by omega)]
    refine g_ifnonnullN (pc := 5) X dX4_dropFamily_5 ?_
    refine g_iconst (pc := 8) X dX4_dropFamily_8 ?_
    refine g_iret (pc := 9) X R hH dX4_dropFamily_9 ?_
    have hm : dpR g n = -1 := if_pos hc
    exact ⟨hm, by rw [show dpG g n = g from if_pos hc]; exact hPg, Fr.refl _ _⟩

abbrev rm_X4_depth : Room := { frames := 1, cells := 0, slots := 0, locals := 21 }
theorem cs_X4_depth_51 : zCV RX4 wsX4_depth 51 4 yX4_find wsX4_find cX4_find 2 (some (.object "AnchoredNotes$Note")) rm_X4_depth rm_X4_find 1 := ⟨_, _, gX4_depth_X4_find, rfl, ⟨by decide +kernel, by decide +kernel, by decide +kernel⟩, ⟨Nat.le_of_ble_eq_true rfl, Nat.le_of_ble_eq_true rfl⟩, rfl, rfl⟩
theorem cs_X4_depth_146 : zCV RX4 wsX4_depth 146 2 yX2_isReply wsX2_isReply cX2_isReply 1 (some .boolean) rm_X4_depth rm_X2_isReply 0 := ⟨_, _, gX4_depth_X2_isReply, rfl, ⟨by decide +kernel, by decide +kernel, by decide +kernel⟩, ⟨Nat.le_of_ble_eq_true rfl, Nat.le_of_ble_eq_true rfl⟩, rfl, rfl⟩
theorem zF_X4_depth_125 : zF RX4 wsX4_depth 2 0 125 := ⟨RX2, TX2, 4, rfl, by decide +kernel, by decide, by decide +kernel⟩
set_option maxRecDepth 100000 in
theorem c_X4_depth (l : Launch) (D : zD) (base : Nat) (q : Nat) (g : Int → Int) (n : Int) (hq : base ≤ q) (hI : PInv g) (hn : 0 ≤ n ∧ n < g 1) : Ct l yX4_depth wsX4_depth rm_X4_depth D base [.ref q, .int (J n)] (fun H => PageAt D q g H) (PI (fun H v H1 => H = H1 ∧ dpt g n = v)) := by
  refine Ct.of (own := RX4) (cc := cX4_depth) (maxL := 4) (by decide +kernel) rfl (Nat.le_of_ble_eq_true rfl) rfl ?_
  intro K H X R hH hnm hP
  show G K 0 0 H 0 [(0, .ref q), (1, .int (J n))] []
  have hPg := hP
  obtain ⟨hO, hS, hL, hW, hN, hQ, hk0, hk1⟩ := hP
  have hnum := hI.nums
  obtain ⟨pi, hRa, hpi, hNt⟩ := hN.op
  obtain ⟨b1, b2, b3, b4, b5⟩ := dep_bd hI hn
  refine g_iconst (pc := 0) X dX4_depth_0 ?_
  refine g_istore_n (pc := 1) (lv' := [(2, _), (0, _), (1, _)]) X dX4_depth_1 (by decide) rfl ?_
  refine g_aload_n (pc := 2) (pl := 1) X dX4_depth_2 rfl ?_
  refine g_iload_n (pc := 3) (pl := 2) X dX4_depth_3 rfl ?_
  refine gVr (pc := 4) (n2 := 0) (k2 := 0) X cs_X4_depth_51 (c_X4_find (zl K) D base q (g 1) n pi (by omega) (by omega) (by omega)) rfl hO (by omega) ⟨hO, hRa⟩ rfl ⟨Nat.le_of_ble_eq_true rfl, Nat.le_of_ble_eq_true rfl⟩ dX4_depth_4 (Nat.le_of_ble_eq_true rfl) rfl rfl (fun v4 H1 hp4 hs4 => ?_)
  obtain ⟨rfl, rfl⟩ := hp4
  rw [fnd_in (q := q) (pi := pi) (k := (g 1)) (i := n) (by omega)]
  refine g_astore_n (pc := 7) (lv' := [(3, _), (2, _), (0, _), (1, _)]) X dX4_depth_7 (by decide) rfl ?_
  have hL8 : ∀ (fu : Nat) (d : Nat) (di c : Int), 16 - d < fu → (c = chn g d n ∧ di = d) → (d ≤ dep g 16 n) → (0 ≤ c ∧ c ≤ n) → G K 0 0 H 8 [(0, .ref q), (1, .int (J n)), (2, .int (J di)), (3, .ref (q + 9 + 7 * pi c))] [] := by
    intro fu
    induction fu with
    | zero => intro d di c hm; exact absurd hm (Nat.not_lt_zero _)
    | succ fu ih8 =>
      intro d di c hm h1 h2 h4
      refine g_iload_n (pc := 8) (pl := 2) X dX4_depth_8 rfl ?_
      refine g_bipush (pc := 9) X dX4_depth_9 (by decide +kernel) ?_
      refine g_icmp_ge (pc := 11) X 40 dX4_depth_11 (by decide) (by omega) (by omega) (fun c11 => ?_) (fun c11 => ?_)
      · skip
        omega
      · skip
        refine g_aload_n (pc := 14) (pl := 3) X dX4_depth_14 rfl ?_
        refine g_ifnull (pc := 15) X dX4_depth_15 ?_
        refine g_aload_n (pc := 18) (pl := 3) X dX4_depth_18 rfl ?_
        obtain ⟨t, wl, al, bl, w, na, nb, hNo, hrt, hni⟩ := hNt c (by omega) (by omega)
        have hte : t = tgt g c := (hni (by omega)).1
        have htg := hI.tg (i := c) (by omega) (by omega)
        obtain ⟨hNO, -⟩ := id hNo
        have hpb := hpi.1 c (by omega) (by omega)
        refine gVi (pc := 19) (n2 := 0) (k2 := 0) X cs_X4_depth_146 (c_X2_isReply (zl K) D base (q + 9 + 7 * pi c) t wl al bl w na nb (by omega) hrt) rfl hNO (by omega) hNo rfl ⟨Nat.le_of_ble_eq_true rfl, Nat.le_of_ble_eq_true rfl⟩ dX4_depth_19 (Nat.le_of_ble_eq_true rfl) rfl rfl (fun v19 H1 hp19 hs19 => ?_)
        obtain ⟨rfl, rfl⟩ := hp19
        refine g_if_eq (pc := 22) X 40 dX4_depth_22 (by decide) (zbr _) (fun c22 => ?_) (fun c22 => ?_)
        · skip
          replace c22 := zb0 c22
          refine g_iload_n (pc := 40) (pl := 2) X dX4_depth_40 rfl ?_
          refine g_iret (pc := 41) X R hH dX4_depth_41 ?_
          refine ⟨rfl, ?_⟩
          have hd2 : d = dep g 16 n := by rcases Nat.lt_or_ge d (dep g 16 n) with z | z; exact absurd (by rw [← h1.1, ← hte]; omega) (dep_before g 16 n d z); omega
          unfold dpt; omega
        · skip
          replace c22 := zb1 c22
          refine g_iinc (pc := 25) (pl := 2) (x := di) (lv' := [(2, _), (0, _), (1, _), (3, _)]) X dX4_depth_25 rfl (by decide) rfl ?_
          refine g_aload_n (pc := 28) (pl := 1) X dX4_depth_28 rfl ?_
          refine g_aload_n (pc := 29) (pl := 3) X dX4_depth_29 rfl ?_
          refine g_getf (pc := 30) X zF_X4_depth_125 hNO rfl dX4_depth_30 ?_
          refine gVr (pc := 33) (n2 := 0) (k2 := 0) X cs_X4_depth_51 (c_X4_find (zl K) D base q (g 1) t pi (by omega) (by omega) (by omega)) rfl hO (by omega) ⟨hO, hRa⟩ rfl ⟨Nat.le_of_ble_eq_true rfl, Nat.le_of_ble_eq_true rfl⟩ dX4_depth_33 (Nat.le_of_ble_eq_true rfl) rfl rfl (fun v33 H1 hp33 hs33 => ?_)
          obtain ⟨rfl, rfl⟩ := hp33
          rw [fnd_in (q := q) (pi := pi) (k := (g 1)) (i := t) (by omega)]
          refine g_astore_n (pc := 36) (lv' := [(3, _), (2, _), (0, _), (1, _)]) X dX4_depth_36 (by decide) rfl ?_
          refine g_goto (pc := 37) X 8 dX4_depth_37 (by decide) ?_
          refine G.pick [2, 3, 1, 0] (lv' := [(0, _), (1, _), (2, _), (3, _)]) rfl ?_
          have hd2 : d < dep g 16 n := by rcases Nat.lt_or_ge d (dep g 16 n) with z | z; exact z; exact absurd (by rw [hte, h1.1, show d = dep g 16 n by omega]; exact b5) c22
          exact ih8 (d + 1) _ t (by omega) ⟨by rw [hte, h1.1]; exact (chn_succ g d n).symm, by omega⟩ (by omega) (by omega)
  refine G.pick [2, 3, 1, 0] (lv' := [(0, _), (1, _), (2, _), (3, _)]) rfl ?_
  exact hL8 _ 0 _ n (Nat.lt_succ_self _) ⟨rfl, rfl⟩ (Nat.zero_le _) ⟨hn.1, Int.le_refl n⟩

abbrev rm_X4_root : Room := { frames := 2, cells := 0, slots := 0, locals := 44 }
theorem cs_X4_root_160 : zCV RX4 wsX4_root 160 4 yX4_depth wsX4_depth cX4_depth 4 (some .int) rm_X4_root rm_X4_depth 1 := ⟨_, _, gX4_root_X4_depth, rfl, ⟨by decide +kernel, by decide +kernel, by decide +kernel⟩, ⟨Nat.le_of_ble_eq_true rfl, Nat.le_of_ble_eq_true rfl⟩, rfl, rfl⟩
theorem cs_X4_root_51 : zCV RX4 wsX4_root 51 4 yX4_find wsX4_find cX4_find 2 (some (.object "AnchoredNotes$Note")) rm_X4_root rm_X4_find 1 := ⟨_, _, gX4_root_X4_find, rfl, ⟨by decide +kernel, by decide +kernel, by decide +kernel⟩, ⟨Nat.le_of_ble_eq_true rfl, Nat.le_of_ble_eq_true rfl⟩, rfl, rfl⟩
theorem zF_X4_root_125 : zF RX4 wsX4_root 2 0 125 := ⟨RX2, TX2, 4, rfl, by decide +kernel, by decide, by decide +kernel⟩
set_option maxRecDepth 100000 in
theorem c_X4_root (l : Launch) (D : zD) (base : Nat) (q : Nat) (g : Int → Int) (n : Int) (hq : base ≤ q) (hI : PInv g) (hn : 0 ≤ n ∧ n < g 1) : Ct l yX4_root wsX4_root rm_X4_root D base [.ref q, .int (J n)] (fun H => PageAt D q g H) (PI (fun H v H1 => H = H1 ∧ rot g n = v)) := by
  refine Ct.of (own := RX4) (cc := cX4_root) (maxL := 5) (by decide +kernel) rfl (Nat.le_of_ble_eq_true rfl) rfl ?_
  intro K H X R hH hnm hP
  show G K 0 0 H 0 [(0, .ref q), (1, .int (J n))] []
  have hPg := hP
  obtain ⟨hO, hS, hL, hW, hN, hQ, hk0, hk1⟩ := hP
  have hnum := hI.nums
  obtain ⟨pi, hRa, hpi, hNt⟩ := hN.op
  obtain ⟨b1, b2, b3, b4, b5⟩ := dep_bd hI hn
  refine g_iload_n (pc := 0) (pl := 1) X dX4_root_0 rfl ?_
  refine g_istore_n (pc := 1) (lv' := [(2, _), (0, _), (1, _)]) X dX4_root_1 (by decide) rfl ?_
  refine g_aload_n (pc := 2) (pl := 1) X dX4_root_2 rfl ?_
  refine g_iload_n (pc := 3) (pl := 2) X dX4_root_3 rfl ?_
  refine gVi (pc := 4) (n2 := 0) (k2 := 0) X cs_X4_root_160 (c_X4_depth (zl K) D base q g n hq hI hn) rfl hO (by omega) hPg rfl ⟨Nat.le_of_ble_eq_true rfl, Nat.le_of_ble_eq_true rfl⟩ dX4_root_4 (Nat.le_of_ble_eq_true rfl) rfl rfl (fun v4 H1 hp4 hs4 => ?_)
  obtain ⟨rfl, rfl⟩ := hp4
  have hdp : dpt g n = (dep g 16 n : Int) := rfl
  refine g_istore_n (pc := 7) (lv' := [(3, _), (2, _), (0, _), (1, _)]) X dX4_root_7 (by decide) rfl ?_
  have hL8 : ∀ (fu : Nat) (d : Nat) (di c : Int), dep g 16 n - d < fu → (c = chn g d n ∧ di = dpt g n - d) → (d ≤ dep g 16 n) → (0 ≤ c ∧ c ≤ n) → G K 0 0 H 8 [(0, .ref q), (1, .int (J n)), (2, .int (J c)), (3, .int (J di))] [] := by
    intro fu
    induction fu with
    | zero => intro d di c hm; exact absurd hm (Nat.not_lt_zero _)
    | succ fu ih8 =>
      intro d di c hm h1 h2 h4
      refine g_iload_n (pc := 8) (pl := 3) X dX4_root_8 rfl ?_
      refine g_if_le (pc := 9) X 40 dX4_root_9 (by decide) (by omega) (fun c9 => ?_) (fun c9 => ?_)
      · skip
        refine g_iload_n (pc := 40) (pl := 2) X dX4_root_40 rfl ?_
        refine g_iret (pc := 41) X R hH dX4_root_41 ?_
        refine ⟨rfl, ?_⟩
        unfold rot
        rw [h1.1, show d = dep g 16 n by omega]
      · skip
        refine g_aload_n (pc := 12) (pl := 0) X dX4_root_12 rfl ?_
        refine g_iload_n (pc := 13) (pl := 2) X dX4_root_13 rfl ?_
        refine gVr (pc := 14) (n2 := 0) (k2 := 0) X cs_X4_root_51 (c_X4_find (zl K) D base q (g 1) c pi (by omega) (by omega) (by omega)) rfl hO (by omega) ⟨hO, hRa⟩ rfl ⟨Nat.le_of_ble_eq_true rfl, Nat.le_of_ble_eq_true rfl⟩ dX4_root_14 (Nat.le_of_ble_eq_true rfl) rfl rfl (fun v14 H1 hp14 hs14 => ?_)
        obtain ⟨rfl, rfl⟩ := hp14
        rw [fnd_in (q := q) (pi := pi) (k := (g 1)) (i := c) (by omega)]
        refine g_astore (pc := 17) (lv' := [(4, _), (0, _), (1, _), (2, _), (3, _)]) X dX4_root_17 (by decide) rfl ?_
        refine g_aload (pc := 19) (pl := 0) X dX4_root_19 rfl ?_
        refine g_ifnonnull (pc := 21) X 28 dX4_root_21 (by decide) ?_
        refine g_aload (pc := 28) (pl := 0) X dX4_root_28 rfl ?_
        obtain ⟨t, wl, al, bl, w, na, nb, hNo, hrt, hni⟩ := hNt c (by omega) (by omega)
        have hte : t = tgt g c := (hni (by omega)).1
        have htg := hI.tg (i := c) (by omega) (by omega)
        obtain ⟨hNO, -⟩ := id hNo
        have hpb := hpi.1 c (by omega) (by omega)
        refine g_getf (pc := 30) X zF_X4_root_125 hNO rfl dX4_root_30 ?_
        refine g_istore_n (pc := 33) (lv' := [(2, _), (4, _), (0, _), (1, _), (3, _)]) X dX4_root_33 (by decide) rfl ?_
        refine g_iinc (pc := 34) (pl := 4) (x := di) (lv' := [(3, _), (2, _), (4, _), (0, _), (1, _)]) X dX4_root_34 rfl (by decide) rfl ?_
        refine g_goto (pc := 37) X 8 dX4_root_37 (by decide) ?_
        refine G.pick [3, 4, 1, 0] (lv' := [(0, _), (1, _), (2, _), (3, _)]) rfl ?_
        have hnb := dep_before g 16 n d (by omega)
        rw [← h1.1, ← hte] at hnb
        exact ih8 (d + 1) _ t (by omega) ⟨by rw [hte, h1.1]; exact (chn_succ g d n).symm, by omega⟩ (by omega) (by omega)
  refine G.pick [2, 3, 1, 0] (lv' := [(0, _), (1, _), (2, _), (3, _)]) rfl ?_
  exact hL8 _ 0 _ n (Nat.lt_succ_self _) ⟨rfl, by omega⟩ (Nat.zero_le _) ⟨hn.1, Int.le_refl n⟩


theorem prP_ok {g : Int → Int} {room : Int} (hI : PInv g) (hr : 1 ≤ room) {p : Nat} (hp : (p : Int) < g 0) {S : PS} (h : PrOk g (p : Int) 0 S) : ∀ k : Nat, (k : Int) ≤ g 1 → PrOk g (p : Int) (k : Int) (prP g room (p : Int) k S)
  | 0, _ => h
  | k + 1, hk => by
    have ih := prP_ok hI hr hp h k (by omega)
    have := ih.step hI ⟨by omega, hp⟩ ⟨by omega, by omega⟩ hr
    rw [show ((k + 1 : Nat) : Int) = (k : Int) + 1 by omega]
    exact this
theorem prA_ok {g : Int → Int} {room : Int} (hI : PInv g) (hr : 1 ≤ room) : ∀ p : Nat, (p : Int) ≤ g 0 → PrOk g (p : Int) 0 (prA g room p)
  | 0, _ => PrOk.start g
  | p + 1, hp => by
    have hn := hI.nums
    have ih := prA_ok hI hr p (by omega)
    have h2 := prP_ok hI hr (by omega) ih (g 1).toNat (by omega)
    rw [show ((p + 1 : Nat) : Int) = (p : Int) + 1 by omega]
    exact h2.next (by omega)
theorem mxE_bd {L E : Int → Int} {b : Int} (hb : 0 ≤ b) (h : ∀ i : Int, ldr L E i ≤ b) : ∀ k : Nat, 0 ≤ mxE L E k ∧ mxE L E k ≤ b
  | 0 => ⟨Int.le_refl 0, hb⟩
  | k + 1 => by
    have ih := mxE_bd hb h k
    have := h (k : Int)
    rw [mxE_s]
    split <;> omega
theorem loR_rg {g : Int → Int} {room : Int} (hI : PInv g) (hr : 1 ≤ room) : 0 ≤ loR g room ∧ loR g room ≤ 75 := by
  have hn := hI.nums
  have h := prA_ok hI hr (g 0).toNat (by omega)
  refine mxE_bd (by omega) (fun i => ?_) _
  unfold ldr
  split
  · omega
  · next c => exact (h.2.2.2.1 i c).2.2.2.2.2.2
/-- the least room with which no leader is too long -/
def lrm (g : Int → Int) (e : Int) : Nat → Int → Int
  | 0, _ => -6
  | k + 1, r => if loR g r ≤ e then r else lrm g e k (r + 1)
def lrR (g : Int → Int) (e : Int) : Int := if ¬ (0 ≤ e ∧ e ≤ 60) then -2 else lrm g e 9 1
def rsR (sl : Int → Option Nat) (ss : Int → Int → Int) (e : Int) : Int := if ¬ (0 ≤ e ∧ e < 2) then -2 else if sl e = none then -5 else ss e 0
def rsG (sl : Int → Option Nat) (ss : Int → Int → Int) (g : Int → Int) (e : Int) : Int → Int := if ¬ (0 ≤ e ∧ e < 2) then g else if sl e = none then g else ss e

abbrev rm_X8_reclaim : Room := { frames := 5, cells := 121, slots := 4272, locals := 148 }
theorem zF_X8_reclaim_49 : zF RX8 wsX8_reclaim 8 5 49 := ⟨RX8, TX8, 7, rfl, by decide +kernel, by decide, by decide +kernel⟩
theorem zF_X8_reclaim_10 : zF RX8 wsX8_reclaim 8 0 10 := ⟨RX8, TX8, 7, rfl, by decide +kernel, by decide, by decide +kernel⟩
theorem cs_X8_reclaim_57 : zCV RX8 wsX8_reclaim 57 0 yX0_keep wsX0_keep cX0_keep 3 none rm_X8_reclaim rm_X0_keep 1 := ⟨_, _, gX8_reclaim_X0_keep, rfl, ⟨by decide +kernel, by decide +kernel, by decide +kernel⟩, ⟨Nat.le_of_ble_eq_true rfl, Nat.le_of_ble_eq_true rfl⟩, rfl, rfl⟩
theorem zF_X8_reclaim_26 : zF RX8 wsX8_reclaim 8 2 26 := ⟨RX8, TX8, 7, rfl, by decide +kernel, by decide, by decide +kernel⟩
theorem cs_X8_reclaim_88 : zCV RX8 wsX8_reclaim 88 4 yX4_reclaimNote wsX4_reclaimNote cX4_reclaimNote 4 (some .int) rm_X8_reclaim rm_X4_reclaimNote 2 := ⟨_, _, gX8_reclaim_X4_reclaimNote, rfl, ⟨by decide +kernel, by decide +kernel, by decide +kernel⟩, ⟨Nat.le_of_ble_eq_true rfl, Nat.le_of_ble_eq_true rfl⟩, rfl, rfl⟩
theorem cs_X8_reclaim_65 : zCV RX8 wsX8_reclaim 65 0 yX0_confirm wsX0_confirm cX0_confirm 2 (some .int) rm_X8_reclaim rm_X0_confirm 1 := ⟨_, _, gX8_reclaim_X0_confirm, rfl, ⟨by decide +kernel, by decide +kernel, by decide +kernel⟩, ⟨Nat.le_of_ble_eq_true rfl, Nat.le_of_ble_eq_true rfl⟩, rfl, rfl⟩
set_option maxRecDepth 100000 in
theorem c_X8_reclaim (l : Launch) (D : zD) (base : Nat) (x lo : Nat) (m : Int) (sa sl : Int → Option Nat) (st ss : Int → Int → Int) (g : Int → Int) (n : Int) (f : Int → Int) (k : Int) (hq : base ≤ x) (hlo : x + 140 ≤ lo) (hI : PInv g) (hk : rg k) : Ct l yX8_reclaim wsX8_reclaim rm_X8_reclaim D base [.ref x, .int (J k)] (fun H => AnAt D x lo m sa sl st ss g n f H ∧ lo ≤ H.size) (PI (fun H v H1 => rcR g k = v ∧ ∃ sa2 : Int → Option Nat, AnAt D x lo (hsN m (rcR g k)) sa2 sl (hsS m (rcR g k) st g) ss (rcG g k) n f H1 ∧ Fx x lo H H1)) := by
  refine Ct.of (own := RX8) (cc := cX8_reclaim) (maxL := 2) (by decide +kernel) rfl (Nat.le_of_ble_eq_true rfl) rfl ?_
  intro K H X R hH hnm hP
  show G K 0 0 H 0 [(0, .ref x), (1, .int (J k))] []
  obtain ⟨hA, hls⟩ := hP
  obtain ⟨hO, hPg, hMg, hSc, hPd, hRd, hHs, hSl⟩ := id hA
  have hm0 : 0 ≤ m ∧ m ≤ 6 := hHs.2.2.2.2
  refine g_aload_n (pc := 0) (pl := 0) X dX8_reclaim_0 rfl ?_
  refine g_getf (pc := 1) X zF_X8_reclaim_49 hO rfl dX8_reclaim_1 ?_
  refine g_aload_n (pc := 4) (pl := 0) X dX8_reclaim_4 rfl ?_
  refine g_getf (pc := 5) X zF_X8_reclaim_10 hO rfl dX8_reclaim_5 ?_
  obtain ⟨hHO, -⟩ := id hHs
  refine gVv (pc := 8) (n2 := 121) (k2 := 4272) X cs_X8_reclaim_57 (c_X0_keep (zl K) D base (x + 137) lo (x + 1) m sa st g (by omega) (by omega) (by omega) (by omega)) rfl hHO (by omega) ⟨hHs, hPg, hls⟩ rfl ⟨(Nat.le_of_ble_eq_true rfl), (Nat.le_of_ble_eq_true rfl)⟩ dX8_reclaim_8 (Nat.le_of_ble_eq_true rfl) rfl rfl (fun H1 hp8 hs8 => ?_)
  obtain ⟨sa1, a1, hsa, hal, hA1, hPa, hF1⟩ := hA.keep hlo hls hp8
  clear hA hHO hO hPg hMg hSc hPd hRd hHs hSl
  have hA := hA1
  clear hA1
  obtain ⟨hO, hPg, hMg, hSc, hPd, hRd, hHs, hSl⟩ := id hA
  refine g_aload_n (pc := 11) (pl := 0) X dX8_reclaim_11 rfl ?_
  refine g_getf (pc := 12) X zF_X8_reclaim_49 hO rfl dX8_reclaim_12 ?_
  refine g_aload_n (pc := 15) (pl := 0) X dX8_reclaim_15 rfl ?_
  refine g_getf (pc := 16) X zF_X8_reclaim_10 hO rfl dX8_reclaim_16 ?_
  refine g_iload_n (pc := 19) (pl := 1) X dX8_reclaim_19 rfl ?_
  refine g_aload_n (pc := 20) (pl := 0) X dX8_reclaim_20 rfl ?_
  refine g_getf (pc := 21) X zF_X8_reclaim_26 hO rfl dX8_reclaim_21 ?_
  obtain ⟨hPO, -⟩ := id hPg
  obtain ⟨z1, z2, z3, hSO⟩ := id hSc
  refine gVi (pc := 24) (n2 := 121) (k2 := 4272) X cs_X8_reclaim_88 (c_X4_reclaimNote (zl K) D base (x + 1) (x + 131) g k z1 z2 z3 (by omega) hI hk (by omega) (by omega)) rfl hPO (by omega) ⟨hPg, hSO⟩ rfl ⟨Nat.le_of_ble_eq_true rfl, Nat.le_of_ble_eq_true rfl⟩ dX8_reclaim_24 (Nat.le_of_ble_eq_true rfl) rfl rfl (fun v24 H2 hp24 hs24 => ?_)
  obtain ⟨rfl, hPn, hSOn, Ha, Hb, hfa, hfb, hfc⟩ := hp24
  have hA1 : AnAt D x lo m sa1 sl st ss (rcG g k) n f H2 := ⟨((hO.fr hfa (by omega)).fr hfb (by omega)).fr hfc (by omega), hPn, ((hMg.fr hfa (by omega)).fr hfb (by omega)).fr hfc (by omega), hSOn, ((hPd.fr hfa (by omega)).fr hfb (by omega)).fr hfc (by omega), ((hRd.fr hfa (by omega)).fr hfb (by omega)).fr hfc (by omega), ((hHs.fr hfa (by omega)).fr hfb (by omega)).fr hfc (by omega), ((hSl.fr hfa (by omega)).fr hfb (by omega)).fr hfc (by omega)⟩
  have hPa1 := ((hPa.fr hfa (by omega)).fr hfb (by omega)).fr hfc (by omega)
  have hF2 := ((hF1.trans (Fx.of hfa (by omega))).trans (Fx.of hfb (by omega))).trans (Fx.of hfc (by omega))
  clear hA hPa hPO hSO hO hPg hMg hSc hPd hRd hHs hSl
  have hA := hA1
  have hPa := hPa1
  clear hA1 hPa1
  obtain ⟨hO, hPg, hMg, hSc, hPd, hRd, hHs, hSl⟩ := id hA
  obtain ⟨hHO, -⟩ := id hHs
  refine gVi (pc := 27) (n2 := 121) (k2 := 4272) X cs_X8_reclaim_65 (c_X0_confirm (zl K) D base (x + 137) lo m (rcR g k) sa1 st a1 g (by omega) (by have := rcR_rg hI k; omega) (by omega) hsa) rfl hHO (by omega) ⟨hHs, hPa⟩ rfl ⟨Nat.le_of_ble_eq_true rfl, Nat.le_of_ble_eq_true rfl⟩ dX8_reclaim_27 (Nat.le_of_ble_eq_true rfl) rfl rfl (fun v27 H3 hp27 hs27 => ?_)
  obtain ⟨sa2, hA2, hF3⟩ := hA.conf hlo hp27
  obtain ⟨rfl, -⟩ := hp27
  refine g_iret (pc := 30) X R hH dX8_reclaim_30 ?_
  exact ⟨rfl, sa2, hA2, hF2.trans hF3⟩

abbrev rm_X8_could : Room := { frames := 4, cells := 0, slots := 0, locals := 90 }
theorem zF_X8_could_10 : zF RX8 wsX8_could 8 0 10 := ⟨RX8, TX8, 7, rfl, by decide +kernel, by decide, by decide +kernel⟩
theorem cs_X8_could_98 : zCV RX8 wsX8_could 98 4 yX4_find wsX4_find cX4_find 2 (some (.object "AnchoredNotes$Note")) rm_X8_could rm_X4_find 1 := ⟨_, _, gX8_could_X4_find, rfl, ⟨by decide +kernel, by decide +kernel, by decide +kernel⟩, ⟨Nat.le_of_ble_eq_true rfl, Nat.le_of_ble_eq_true rfl⟩, rfl, rfl⟩
theorem cs_X8_could_102 : zCV RX8 wsX8_could 102 4 yX4_state wsX4_state cX4_state 3 (some .int) rm_X8_could rm_X4_state 1 := ⟨_, _, gX8_could_X4_state, rfl, ⟨by decide +kernel, by decide +kernel, by decide +kernel⟩, ⟨Nat.le_of_ble_eq_true rfl, Nat.le_of_ble_eq_true rfl⟩, rfl, rfl⟩
theorem zF_X8_could_26 : zF RX8 wsX8_could 8 2 26 := ⟨RX8, TX8, 7, rfl, by decide +kernel, by decide, by decide +kernel⟩
theorem zF_X8_could_92 : zF RX8 wsX8_could 4 1 92 := ⟨RX4, TX4, 6, rfl, by decide +kernel, by decide, by decide +kernel⟩
theorem cs_X8_could_193 : zCV RX8 wsX8_could 193 7 yX7_look wsX7_look cX7_look 6 none rm_X8_could rm_X7_look 2 := ⟨_, _, gX8_could_X7_look, rfl, ⟨by decide +kernel, by decide +kernel, by decide +kernel⟩, ⟨Nat.le_of_ble_eq_true rfl, Nat.le_of_ble_eq_true rfl⟩, rfl, rfl⟩
theorem zF_X8_could_197 : zF RX8 wsX8_could 7 2 197 := ⟨RX7, TX7, 3, rfl, by decide +kernel, by decide, by decide +kernel⟩
theorem zF_X8_could_203 : zF RX8 wsX8_could 7 1 203 := ⟨RX7, TX7, 3, rfl, by decide +kernel, by decide, by decide +kernel⟩
theorem zF_X8_could_200 : zF RX8 wsX8_could 7 0 200 := ⟨RX7, TX7, 3, rfl, by decide +kernel, by decide, by decide +kernel⟩
set_option maxRecDepth 100000 in
theorem c_X8_could (l : Launch) (D : zD) (base : Nat) (x lo : Nat) (m : Int) (sa sl : Int → Option Nat) (st ss : Int → Int → Int) (g : Int → Int) (n : Int) (f : Int → Int) (k e : Int) (hq : base ≤ x) (hlo : x + 140 ≤ lo) (hI : PInv g) (hk : rg k) (he : rg e) : Ct l yX8_could wsX8_could rm_X8_could D base [.ref x, .int (J k), .int (J e)] (fun H => AnAt D x lo m sa sl st ss g n f H) (PI (fun H v H1 => coR g k e = v ∧ AnAt D x lo m sa sl st ss g n f H1 ∧ Fz x lo H H1)) := by
  refine Ct.of (own := RX8) (cc := cX8_could) (maxL := 4) (by decide +kernel) rfl (Nat.le_of_ble_eq_true rfl) rfl ?_
  intro K H X R hH hnm hP
  show G K 0 0 H 0 [(0, .ref x), (1, .int (J k)), (2, .int (J e))] []
  have hA := hP
  obtain ⟨hO, hPg, hMg, hSc, hPd, hRd, hHs, hSl⟩ := id hA
  obtain ⟨hPO, hPS, hPL, hPW, hPN, hPQ, hPk0, hPk1⟩ := id hPg
  have hnum := hI.nums
  have hPL0 := hPL.bd
  refine g_aload_n (pc := 0) (pl := 0) X dX8_could_0 rfl ?_
  refine g_getf (pc := 1) X zF_X8_could_10 hO rfl dX8_could_1 ?_
  refine g_iload_n (pc := 4) (pl := 1) X dX8_could_4 rfl ?_
  by_cases ck : 0 ≤ k ∧ k < g 1
  · skip
    obtain ⟨pi, hRa, hpi, hNt⟩ := id hPN
    obtain ⟨t, wl, al, bl, fw, fa, fb, hNo, hrt, hni⟩ := hNt k (by omega) (by omega)
    obtain ⟨hte, hni2⟩ := hni (by omega)
    have hte3 : tgt g k = t := hte.symm
    obtain ⟨hNO, hNW, hNA, hNB⟩ := id hNo
    have hpb := hpi.1 k (by omega) (by omega)
    refine gVr (pc := 5) (n2 := 0) (k2 := 0) X cs_X8_could_98 (c_X4_find (zl K) D base (x + 1) (g 1) k pi (by omega) (by omega) (by omega)) rfl hPO (by omega) ⟨hPO, hRa⟩ rfl ⟨Nat.le_of_ble_eq_true rfl, Nat.le_of_ble_eq_true rfl⟩ dX8_could_5 (Nat.le_of_ble_eq_true rfl) rfl rfl (fun v5 H1 hp5 hs5 => ?_)
    obtain ⟨rfl, rfl⟩ := hp5
    rw [fnd_in (q := (x + 1)) (pi := pi) (k := (g 1)) (i := k) (by omega)]
    refine g_astore_n (pc := 8) (lv' := [(3, _), (0, _), (1, _), (2, _)]) X dX8_could_8 (by decide) rfl ?_
    refine g_aload_n (pc := 9) (pl := 0) X dX8_could_9 rfl ?_
    refine g_ifnonnull (pc := 10) X 15 dX8_could_10 (by decide) ?_
    refine g_iload_n (pc := 15) (pl := 3) X dX8_could_15 rfl ?_
    refine g_if_lt (pc := 16) X 24 dX8_could_16 (by decide) (by omega) (fun c16 => ?_) (fun c16 => ?_)
    · skip
      refine g_bipush (pc := 24) X dX8_could_24 (by decide +kernel) ?_
      refine g_iret (pc := 26) X R hH dX8_could_26 ?_
      exact ⟨(if_neg (fun z => z ck)).trans (if_pos (by omega)), hA, Fz.refl _ _ _⟩
    · skip
      refine g_iload_n (pc := 19) (pl := 3) X dX8_could_19 rfl ?_
      refine g_iconst (pc := 20) X dX8_could_20 ?_
      refine g_icmp_le (pc := 21) X 27 dX8_could_21 (by decide) (by omega) (by omega) (fun c21 => ?_) (fun c21 => ?_)
      · skip
        refine g_aload_n (pc := 27) (pl := 1) X dX8_could_27 rfl ?_
        refine g_getf (pc := 28) X zF_X8_could_10 hO rfl dX8_could_28 ?_
        refine g_iload_n (pc := 31) (pl := 2) X dX8_could_31 rfl ?_
        refine gVi (pc := 32) (n2 := 0) (k2 := 0) X cs_X8_could_102 (c_X4_state (zl K) D base (x + 1) g k (by omega) hI (by omega)) rfl hPO (by omega) hPg rfl ⟨Nat.le_of_ble_eq_true rfl, Nat.le_of_ble_eq_true rfl⟩ dX8_could_32 (Nat.le_of_ble_eq_true rfl) rfl rfl (fun v32 H1 hp32 hs32 => ?_)
        obtain ⟨rfl, hPn, hfq⟩ := hp32
        have hA1 := hA.page (hfq.wide (by omega) (by omega)) hPn hlo
        have hNo1 := hNo.fr hfq (by omega)
        obtain ⟨hO1, -, -, hSc1, -⟩ := id hA1
        obtain ⟨hPO1, -, hPL1, -⟩ := id hPn
        refine g_iconst (pc := 35) X dX8_could_35 ?_
        refine g_icmp_eq (pc := 36) X 42 dX8_could_36 (by decide) (by simp only [stt]; (repeat' split) <;> omega) (by omega) (fun c36 => ?_) (fun c36 => ?_)
        · skip
          refine g_aload_n (pc := 42) (pl := 1) X dX8_could_42 rfl ?_
          refine g_getf (pc := 43) X zF_X8_could_26 hO1 rfl dX8_could_43 ?_
          refine g_aload_n (pc := 46) (pl := 1) X dX8_could_46 rfl ?_
          refine g_getf (pc := 47) X zF_X8_could_10 hO1 rfl dX8_could_47 ?_
          refine g_getf (pc := 50) X zF_X8_could_92 hPO1 rfl dX8_could_50 ?_
          refine g_aload_n (pc := 53) (pl := 0) X dX8_could_53 rfl ?_
          obtain ⟨z1, z2, z3, hSO⟩ := id hSc1
          have hst : tgt g k = -6 := by unfold stt at c36; split at c36; (omega); (next z => exact Decidable.not_not.mp z)
          have hnv := hI.nt (i := k) (by omega) (by omega) hst
          have hniX := hni (by omega)
          rw [show t = -6 by omega] at hniX
          obtain ⟨w1, w2, w3, w4, w5, w6⟩ := hniX.2 rfl
          have hvw : ∀ j : Int, 0 ≤ j → j < wl → 0 ≤ fw j ∧ fw j ≤ 25 := fun j a b => by rw [w4 j a b]; exact hnv.2.2.2.2.2.2.1 j a (by omega)
          have hva : ∀ j : Int, 0 ≤ j → j < al → 0 ≤ fa j ∧ fa j ≤ 25 := fun j a b => by rw [w5 j a b]; exact hnv.2.2.2.2.2.2.2.1 j a (by omega)
          have hvb : ∀ j : Int, 0 ≤ j → j < bl → 0 ≤ fb j ∧ fb j ≤ 25 := fun j a b => by rw [w6 j a b]; exact hnv.2.2.2.2.2.2.2.2 j a (by omega)
          obtain ⟨eo, el⟩ := okS_note hniX
          have hbb := bst_bd hI (i := k) (by omega) (by omega) hst
          refine gVv (pc := 54) (n2 := 0) (k2 := 0) X cs_X8_could_193 (c_X7_look (zl K) D base (x + 131) ((x + 1) + 3) ((x + 1) + 9 + 7 * pi k) z1 z2 z3 (g 0) (LT g) t wl al bl fw fa fb (by omega) (by omega) (by omega) (by omega) (by omega) (by omega) hI.let hvw hva hvb) rfl hSO (by omega) ⟨hSO, hPL1, hNo1⟩ rfl ⟨Nat.le_of_ble_eq_true rfl, Nat.le_of_ble_eq_true rfl⟩ dX8_could_54 (Nat.le_of_ble_eq_true rfl) rfl rfl (fun H2 hp54 hs54 => ?_)
          obtain ⟨hSOn, hfs⟩ := hp54
          rw [eo, el] at hSOn
          have hA2 := hA1.srch hfs ⟨_, _, _, hSOn⟩ hlo
          obtain ⟨hO2, -⟩ := id hA2
          have hSO2 : Ob D (x + 131) 7 [.int (J (bstN g k).1), .int (J (bstN g k).2.1), .int (J (bstN g k).2.2)] H2 := hSOn
          refine g_aload_n (pc := 57) (pl := 1) X dX8_could_57 rfl ?_
          refine g_getf (pc := 58) X zF_X8_could_26 hO2 rfl dX8_could_58 ?_
          refine g_getf (pc := 61) X zF_X8_could_197 hSO2 rfl dX8_could_61 ?_
          refine g_if_ne (pc := 64) X 70 dX8_could_64 (by decide) (by omega) (fun c64 => ?_) (fun c64 => ?_)
          · skip
            refine g_iload_n (pc := 70) (pl := 3) X dX8_could_70 rfl ?_
            refine g_if_ne (pc := 71) X 84 dX8_could_71 (by decide) (by omega) (fun c71 => ?_) (fun c71 => ?_)
            · skip
              refine g_iload_n (pc := 84) (pl := 3) X dX8_could_84 rfl ?_
              refine g_iconst (pc := 85) X dX8_could_85 ?_
              refine g_icmp_ne (pc := 86) X 99 dX8_could_86 (by decide) (by omega) (by omega) (fun c86 => ?_) (fun c86 => ?_)
              · skip
                refine g_aload_n (pc := 99) (pl := 1) X dX8_could_99 rfl ?_
                refine g_getf (pc := 100) X zF_X8_could_26 hO2 rfl dX8_could_100 ?_
                refine g_getf (pc := 103) X zF_X8_could_197 hSO2 rfl dX8_could_103 ?_
                refine g_iret (pc := 106) X R hH dX8_could_106 ?_
                exact ⟨(if_neg (fun z => z ck)).trans ((if_neg (by omega)).trans ((if_neg (fun z => z c36)).trans ((if_neg (by omega)).trans ((if_neg (by omega)).trans (if_neg (by omega)))))), hA2, (Fz.of hfq (by omega)).trans (Fz.of hfs (by omega))⟩
              · skip
                refine g_aload_n (pc := 89) (pl := 1) X dX8_could_89 rfl ?_
                refine g_getf (pc := 90) X zF_X8_could_26 hO2 rfl dX8_could_90 ?_
                refine g_getf (pc := 93) X zF_X8_could_203 hSO2 rfl dX8_could_93 ?_
                refine g_goto (pc := 96) X 106 dX8_could_96 (by decide) ?_
                refine g_iret (pc := 106) X R hH dX8_could_106 ?_
                exact ⟨(if_neg (fun z => z ck)).trans ((if_neg (by omega)).trans ((if_neg (fun z => z c36)).trans ((if_neg (by omega)).trans ((if_neg (by omega)).trans (if_pos (by omega)))))), hA2, (Fz.of hfq (by omega)).trans (Fz.of hfs (by omega))⟩
            · skip
              refine g_aload_n (pc := 74) (pl := 1) X dX8_could_74 rfl ?_
              refine g_getf (pc := 75) X zF_X8_could_26 hO2 rfl dX8_could_75 ?_
              refine g_getf (pc := 78) X zF_X8_could_200 hSO2 rfl dX8_could_78 ?_
              refine g_goto (pc := 81) X 106 dX8_could_81 (by decide) ?_
              refine g_iret (pc := 106) X R hH dX8_could_106 ?_
              exact ⟨(if_neg (fun z => z ck)).trans ((if_neg (by omega)).trans ((if_neg (fun z => z c36)).trans ((if_neg (by omega)).trans (if_pos (by omega))))), hA2, (Fz.of hfq (by omega)).trans (Fz.of hfs (by omega))⟩
          · skip
            refine g_bipush (pc := 67) X dX8_could_67 (by decide +kernel) ?_
            refine g_iret (pc := 69) X R hH dX8_could_69 ?_
            exact ⟨(if_neg (fun z => z ck)).trans ((if_neg (by omega)).trans ((if_neg (fun z => z c36)).trans (if_pos (by omega)))), hA2, (Fz.of hfq (by omega)).trans (Fz.of hfs (by omega))⟩
        · skip
          refine g_bipush (pc := 39) X dX8_could_39 (by decide +kernel) ?_
          refine g_iret (pc := 41) X R hH dX8_could_41 ?_
          exact ⟨(if_neg (fun z => z ck)).trans ((if_neg (by omega)).trans (if_pos c36)), hA1, Fz.of hfq (by omega)⟩
      · skip
        refine g_bipush (pc := 24) X dX8_could_24 (by decide +kernel) ?_
        refine g_iret (pc := 26) X R hH dX8_could_26 ?_
        exact ⟨(if_neg (fun z => z ck)).trans (if_pos (by omega)), hA, Fz.refl _ _ _⟩
  · skip
    obtain ⟨pi, hRa, hpi, hNt⟩ := id hPN
    refine gVr (pc := 5) (n2 := 0) (k2 := 0) X cs_X8_could_98 (c_X4_find (zl K) D base (x + 1) (g 1) k pi (by omega) (by omega) (by omega)) rfl hPO (by omega) ⟨hPO, hRa⟩ rfl ⟨Nat.le_of_ble_eq_true rfl, Nat.le_of_ble_eq_true rfl⟩ dX8_could_5 (Nat.le_of_ble_eq_true rfl) rfl rfl (fun v5 H1 hp5 hs5 => ?_)
    obtain ⟨rfl, rfl⟩ := hp5
    rw [fnd_out (q := (x + 1)) (pi := pi) (k := (g 1)) (i := k) (by omega)]
    refine g_astore_nN (pc := 8) (lv' := [(3, _), (0, _), (1, _), (2, _)]) X dX8_could_8 (by decide) rfl ?_
    refine g_aload_nN (pc := 9) (pl := 0) X dX8_could_9 rfl ?_
    refine g_ifnonnullN (pc := 10) X dX8_could_10 ?_
    refine g_iconst (pc := 13) X dX8_could_13 ?_
    refine g_iret (pc := 14) X R hH dX8_could_14 ?_
    exact ⟨if_pos ck, hA, Fz.refl _ _ _⟩

abbrev rm_X8_leastRoom : Room := { frames := 4, cells := 0, slots := 0, locals := 92 }
theorem zF_X8_leastRoom_19 : zF RX8 wsX8_leastRoom 8 1 19 := ⟨RX8, TX8, 7, rfl, by decide +kernel, by decide, by decide +kernel⟩
theorem zF_X8_leastRoom_10 : zF RX8 wsX8_leastRoom 8 0 10 := ⟨RX8, TX8, 7, rfl, by decide +kernel, by decide, by decide +kernel⟩
theorem cs_X8_leastRoom_158 : zCV RX8 wsX8_leastRoom 158 1 yX1_layOut wsX1_layOut cX1_layOut 5 none rm_X8_leastRoom rm_X1_layOut 2 := ⟨_, _, gX8_leastRoom_X1_layOut, rfl, ⟨by decide +kernel, by decide +kernel, by decide +kernel⟩, ⟨Nat.le_of_ble_eq_true rfl, Nat.le_of_ble_eq_true rfl⟩, rfl, rfl⟩
theorem zF_X8_leastRoom_206 : zF RX8 wsX8_leastRoom 1 4 206 := ⟨RX1, TX1, 7, rfl, by decide +kernel, by decide, by decide +kernel⟩
set_option maxRecDepth 100000 in
theorem c_X8_leastRoom (l : Launch) (D : zD) (base : Nat) (x lo : Nat) (m : Int) (sa sl : Int → Option Nat) (st ss : Int → Int → Int) (g : Int → Int) (n : Int) (f : Int → Int) (e : Int) (hq : base ≤ x) (hlo : x + 140 ≤ lo) (hI : PInv g) (he : rg e) : Ct l yX8_leastRoom wsX8_leastRoom rm_X8_leastRoom D base [.ref x, .int (J e)] (fun H => AnAt D x lo m sa sl st ss g n f H) (PI (fun H v H1 => lrR g e = v ∧ AnAt D x lo m sa sl st ss g n f H1 ∧ Fz x lo H H1)) := by
  refine Ct.of (own := RX8) (cc := cX8_leastRoom) (maxL := 3) (by decide +kernel) rfl (Nat.le_of_ble_eq_true rfl) rfl ?_
  intro K H X R hH hnm hP
  show G K 0 0 H 0 [(0, .ref x), (1, .int (J e))] []
  have hA := hP
  obtain ⟨hO, hPg, hMg, hSc, hPd, hRd, hHs, hSl⟩ := id hA
  obtain ⟨hPO, hPS, hPL, hPW, hPN, hPQ, hPk0, hPk1⟩ := id hPg
  have hnum := hI.nums
  have hPL0 := hPL.bd
  refine g_iload_n (pc := 0) (pl := 1) X dX8_leastRoom_0 rfl ?_
  refine g_if_lt (pc := 1) X 10 dX8_leastRoom_1 (by decide) (by omega) (fun c1 => ?_) (fun c1 => ?_)
  · skip
    refine g_bipush (pc := 10) X dX8_leastRoom_10 (by decide +kernel) ?_
    refine g_iret (pc := 12) X R hH dX8_leastRoom_12 ?_
    exact ⟨if_pos (by omega), hA, Fz.refl _ _ _⟩
  · skip
    refine g_iload_n (pc := 4) (pl := 1) X dX8_leastRoom_4 rfl ?_
    refine g_bipush (pc := 5) X dX8_leastRoom_5 (by decide +kernel) ?_
    refine g_icmp_le (pc := 7) X 13 dX8_leastRoom_7 (by decide) (by omega) (by omega) (fun c7 => ?_) (fun c7 => ?_)
    · skip
      refine g_iconst (pc := 13) X dX8_leastRoom_13 ?_
      refine g_istore_n (pc := 14) (lv' := [(2, _), (0, _), (1, _)]) X dX8_leastRoom_14 (by decide) rfl ?_
      have hL15 : ∀ (fu : Nat) (r : Nat) (ri : Int) (Hx : Heap), 10 - r < fu → (ri = (r : Int)) → (1 ≤ r ∧ r ≤ 10) → (lrm g e 9 1 = lrm g e (10 - r) (r : Int)) → (AnAt D x lo m sa sl st ss g n f Hx) → (Fz x lo H Hx) → G K 0 0 Hx 15 [(0, .ref x), (1, .int (J e)), (2, .int (J ri))] [] := by
        intro fu
        induction fu with
        | zero => intro r ri Hx hm; exact absurd hm (Nat.not_lt_zero _)
        | succ fu ih15 =>
          intro r ri Hx hm he1 h1 hl hA hF0
          subst he1
          obtain ⟨hO, hPg, hMg, hSc, hPd, hRd, hHs, hSl⟩ := id hA
          obtain ⟨hPO, hPS, hPL, hPW, hPN, hPQ, hPk0, hPk1⟩ := id hPg
          refine g_iload_n (pc := 15) (pl := 2) X dX8_leastRoom_15 rfl ?_
          refine g_bipush (pc := 16) X dX8_leastRoom_16 (by decide +kernel) ?_
          refine g_icmp_gt (pc := 18) X 52 dX8_leastRoom_18 (by decide) (by omega) (by omega) (fun c18 => ?_) (fun c18 => ?_)
          · skip
            refine g_bipush (pc := 52) X dX8_leastRoom_52 (by decide +kernel) ?_
            refine g_iret (pc := 54) X R hH dX8_leastRoom_54 ?_
            have e9 : 10 - r = 0 := by omega
            rw [e9] at hl
            exact ⟨(if_neg (by omega)).trans hl, hA, hF0⟩
          · skip
            refine g_aload_n (pc := 21) (pl := 0) X dX8_leastRoom_21 rfl ?_
            refine g_getf (pc := 22) X zF_X8_leastRoom_19 hO rfl dX8_leastRoom_22 ?_
            refine g_aload_n (pc := 25) (pl := 0) X dX8_leastRoom_25 rfl ?_
            refine g_getf (pc := 26) X zF_X8_leastRoom_10 hO rfl dX8_leastRoom_26 ?_
            refine g_iload_n (pc := 29) (pl := 2) X dX8_leastRoom_29 rfl ?_
            obtain ⟨mk, mu, mF, mL, mE, mU, mx1, mx2, mx3, hMg0⟩ := id hMg
            obtain ⟨hMO, -⟩ := id hMg0
            refine gVv (pc := 30) (n2 := 0) (k2 := 0) X cs_X8_leastRoom_158 (c_X1_layOut (zl K) D base (x + 122) mk mu mF mL mE mU mx1 mx2 mx3 (x + 1) g (r : Int) (by omega) (by omega) (by omega) hI (by omega)) rfl hMO (by omega) ⟨hMg0, hPg⟩ rfl ⟨Nat.le_of_ble_eq_true rfl, Nat.le_of_ble_eq_true rfl⟩ dX8_leastRoom_30 (Nat.le_of_ble_eq_true rfl) rfl rfl (fun H1 hp30 hs30 => ?_)
            obtain ⟨hPn, hMn, hfu⟩ := hp30
            obtain ⟨hA1, hFx⟩ := hA.lay hlo hfu hPn ⟨_, _, _, _, _, _, _, _, _, hMn⟩
            obtain ⟨hMO1, hML1, hME1, -, -⟩ := id hMn
            obtain ⟨hO1, -⟩ := id hA1
            have hMO2 : Ob D (x + 122) 1 [.ref (x + 122 + 1), .ref (x + 122 + 3), .int (J (llR g (r : Int))), .int (J (laR g (r : Int))), .int (J (loR g (r : Int))), .ref (x + 122 + 5), .ref (x + 122 + 7)] H1 := hMO1
            refine g_aload_n (pc := 33) (pl := 0) X dX8_leastRoom_33 rfl ?_
            refine g_getf (pc := 34) X zF_X8_leastRoom_19 hO1 rfl dX8_leastRoom_34 ?_
            refine g_getf (pc := 37) X zF_X8_leastRoom_206 hMO2 rfl dX8_leastRoom_37 ?_
            refine g_iload_n (pc := 40) (pl := 1) X dX8_leastRoom_40 rfl ?_
            have hlr := loR_rg hI (room := (r : Int)) (by omega)
            refine g_icmp_gt (pc := 41) X 46 dX8_leastRoom_41 (by decide) (by omega) (by omega) (fun c41 => ?_) (fun c41 => ?_)
            · skip
              refine g_iinc (pc := 46) (pl := 2) (x := (r : Int)) (lv' := [(2, _), (0, _), (1, _)]) X dX8_leastRoom_46 rfl (by decide) rfl ?_
              refine g_goto (pc := 49) X 15 dX8_leastRoom_49 (by decide) ?_
              refine G.pick [1, 2, 0] (lv' := [(0, _), (1, _), (2, _)]) rfl ?_
              have e9 : lrm g e (10 - (r + 1) + 1) (r : Int) = lrm g e (10 - (r + 1)) ((r : Int) + 1) := if_neg (by omega)
              rw [show 10 - (r + 1) + 1 = 10 - r by omega] at e9
              exact ih15 (r + 1) _ H1 (by omega) (by omega) (by omega) (hl.trans e9) hA1 (hF0.trans hFx)
            · skip
              refine g_iload_n (pc := 44) (pl := 2) X dX8_leastRoom_44 rfl ?_
              refine g_iret (pc := 45) X R hH dX8_leastRoom_45 ?_
              have e9 : lrm g e (10 - (r + 1) + 1) (r : Int) = (r : Int) := if_pos (by omega)
              rw [show 10 - (r + 1) + 1 = 10 - r by omega] at e9
              exact ⟨(if_neg (by omega)).trans (hl.trans e9), hA1, hF0.trans hFx⟩
      refine G.pick [1, 2, 0] (lv' := [(0, _), (1, _), (2, _)]) rfl ?_
      exact hL15 _ 1 _ H (Nat.lt_succ_self _) rfl (by omega) rfl hA (Fz.refl _ _ _)
    · skip
      refine g_bipush (pc := 10) X dX8_leastRoom_10 (by decide +kernel) ?_
      refine g_iret (pc := 12) X R hH dX8_leastRoom_12 ?_
      exact ⟨if_pos (by omega), hA, Fz.refl _ _ _⟩

abbrev rm_X8_wipe : Room := { frames := 1, cells := 0, slots := 0, locals := 20 }
abbrev rm_X8_fault : Room := { frames := 4, cells := 0, slots := 0, locals := 86 }
abbrev rm_X8_undo : Room := { frames := 5, cells := 0, slots := 0, locals := 149 }
theorem zF_X8_undo_49 : zF RX8 wsX8_undo 8 5 49 := ⟨RX8, TX8, 7, rfl, by decide +kernel, by decide, by decide +kernel⟩
theorem zF_X8_undo_10 : zF RX8 wsX8_undo 8 0 10 := ⟨RX8, TX8, 7, rfl, by decide +kernel, by decide, by decide +kernel⟩
theorem cs_X8_undo_239 : zCV RX8 wsX8_undo 239 0 yX0_goBack wsX0_goBack cX0_goBack 4 (some .boolean) rm_X8_undo rm_X0_goBack 1 := ⟨_, _, gX8_undo_X0_goBack, rfl, ⟨by decide +kernel, by decide +kernel, by decide +kernel⟩, ⟨Nat.le_of_ble_eq_true rfl, Nat.le_of_ble_eq_true rfl⟩, rfl, rfl⟩
theorem zF_X8_undo_187 : zF RX8 wsX8_undo 0 1 187 := ⟨RX0, TX0, 2, rfl, by decide +kernel, by decide, by decide +kernel⟩
set_option maxRecDepth 100000 in
theorem c_X8_undo (l : Launch) (D : zD) (base : Nat) (x lo : Nat) (m : Int) (sa sl : Int → Option Nat) (st ss : Int → Int → Int) (g : Int → Int) (n : Int) (f : Int → Int) (hq : base ≤ x) (hlo : x + 140 ≤ lo) (hI : PInv g) : Ct l yX8_undo wsX8_undo rm_X8_undo D base [.ref x] (fun H => AnAt D x lo m sa sl st ss g n f H) (PI (fun H v H1 => (if 0 < m then m - 1 else -5) = v ∧ AnAt D x lo (if 0 < m then m - 1 else m) sa sl st ss (if 0 < m then st (m - 1) else g) n f H1 ∧ Fx x lo H H1)) := by
  refine Ct.of (own := RX8) (cc := cX8_undo) (maxL := 1) (by decide +kernel) rfl (Nat.le_of_ble_eq_true rfl) rfl ?_
  intro K H X R hH hnm hP
  show G K 0 0 H 0 [(0, .ref x)] []
  have hA := hP
  obtain ⟨hO, hPg, hMg, hSc, hPd, hRd, hHs, hSl⟩ := id hA
  have hm0 : 0 ≤ m ∧ m ≤ 6 := hHs.2.2.2.2
  refine g_aload_n (pc := 0) (pl := 0) X dX8_undo_0 rfl ?_
  refine g_getf (pc := 1) X zF_X8_undo_49 hO rfl dX8_undo_1 ?_
  refine g_aload_n (pc := 4) (pl := 0) X dX8_undo_4 rfl ?_
  refine g_getf (pc := 5) X zF_X8_undo_10 hO rfl dX8_undo_5 ?_
  by_cases hm : 0 < m
  · skip
    obtain ⟨hHO, -⟩ := id hHs
    refine gVi (pc := 8) (n2 := 0) (k2 := 0) X cs_X8_undo_239 (c_X0_goBack (zl K) D base (x + 137) lo (x + 1) m sa st g (by omega) (by omega) (by omega) (by omega) (by omega)) rfl hHO (by omega) ⟨hHs, hPg⟩ rfl ⟨Nat.le_of_ble_eq_true rfl, Nat.le_of_ble_eq_true rfl⟩ dX8_undo_8 (Nat.le_of_ble_eq_true rfl) rfl rfl (fun v8 H1 hp8 hs8 => ?_)
    obtain ⟨hv8, -, hz⟩ := hp8
    rw [if_pos hm] at hv8
    subst hv8
    obtain ⟨⟨Ha, f1, f2⟩, hHs1, hPg1⟩ := hz hm
    have hA1 : AnAt D x lo (m - 1) sa sl st ss (st (m - 1)) n f H1 := ⟨(hO.fr f1 (by omega)).fr f2 (by omega), hPg1, (hMg.fr f1 (by omega)).fr f2 (by omega), (hSc.fr f1 (by omega)).fr f2 (by omega), (hPd.fr f1 (by omega)).fr f2 (by omega), (hRd.fr f1 (by omega)).fr f2 (by omega), hHs1, (hSl.fr f1 (by omega)).fr f2 (by omega)⟩
    obtain ⟨hO1, -⟩ := id hA1
    obtain ⟨hHO1, -⟩ := id hHs1
    refine g_if_eq (pc := 11) X 24 dX8_undo_11 (by decide) (by omega) (fun c11 => ?_) (fun c11 => ?_)
    · skip
      exact absurd c11 (by decide)
    · skip
      refine g_aload_n (pc := 14) (pl := 0) X dX8_undo_14 rfl ?_
      refine g_getf (pc := 15) X zF_X8_undo_49 hO1 rfl dX8_undo_15 ?_
      refine g_getf (pc := 18) X zF_X8_undo_187 hHO1 rfl dX8_undo_18 ?_
      refine g_goto (pc := 21) X 26 dX8_undo_21 (by decide) ?_
      refine g_iret (pc := 26) X R hH dX8_undo_26 ?_
      refine ⟨if_pos hm, ?_, (Fx.of f1 (by omega)).trans (Fx.of f2 (by omega))⟩
      rw [if_pos hm, if_pos hm]
      exact hA1
  · skip
    obtain ⟨hHO, -⟩ := id hHs
    refine gVi (pc := 8) (n2 := 0) (k2 := 0) X cs_X8_undo_239 (c_X0_goBack (zl K) D base (x + 137) lo (x + 1) m sa st g (by omega) (by omega) (by omega) (by omega) (by omega)) rfl hHO (by omega) ⟨hHs, hPg⟩ rfl ⟨Nat.le_of_ble_eq_true rfl, Nat.le_of_ble_eq_true rfl⟩ dX8_undo_8 (Nat.le_of_ble_eq_true rfl) rfl rfl (fun v8 H1 hp8 hs8 => ?_)
    obtain ⟨hv8, hz, -⟩ := hp8
    rw [if_neg hm] at hv8
    subst hv8
    have hA1 : AnAt D x lo m sa sl st ss g n f H1 := by rw [← hz (by omega)]; exact hA
    have hF9 : Fx x lo H H1 := by rw [← hz (by omega)]; exact Fx.refl _ _ _
    obtain ⟨hO1, -⟩ := id hA1
    refine g_if_eq (pc := 11) X 24 dX8_undo_11 (by decide) (by omega) (fun c11 => ?_) (fun c11 => ?_)
    · skip
      refine g_bipush (pc := 24) X dX8_undo_24 (by decide +kernel) ?_
      refine g_iret (pc := 26) X R hH dX8_undo_26 ?_
      refine ⟨if_neg hm, ?_, hF9⟩
      rw [if_neg hm, if_neg hm]
      exact hA1
    · skip
      exact absurd (by decide) c11

abbrev rm_X8_restore : Room := { frames := 5, cells := 121, slots := 4272, locals := 148 }

theorem pls_bd {n : Int} {f : Int → Int} {k : Nat} (h : ∀ j : Nat, j < k → ordOk n f (pls n f j)) (hn : 0 ≤ n) : ∀ j : Nat, j ≤ k → 0 ≤ pls n f j ∧ pls n f j ≤ n
  | 0, _ => ⟨Int.le_refl 0, hn⟩
  | j + 1, hj => by
    have ih := pls_bd h hn j (by omega)
    have hb := ordE_bd (n := n) (f := f) (p := pls n f j) ih.1 ih.2
    have e : pls n f (j + 1) = nxP n f (pls n f j) := rfl
    rw [e]
    unfold nxP
    by_cases c : itm n f (ordE n f (pls n f j)) = 59
    · rw [if_pos c]
      have := itm_in (n := n) (f := f) (p := ordE n f (pls n f j)) (by omega)
      omega
    · rw [if_neg c]; omega
theorem ord_end {n : Int} {f : Int → Int} {p : Int} (h : n ≤ p) : ¬ ordOk n f p := fun z => by
  have h1 := oK_cases z
  have h2 : itm n f p = -1 := if_neg (by omega)
  omega

abbrev rm_X9_carryOut : Room := { frames := 6, cells := 0, slots := 0, locals := 143 }
theorem cs_X9_carryOut_231 : zCV RX9 wsX9_carryOut 231 9 yX9_isText wsX9_isText cX9_isText 2 (some .boolean) rm_X9_carryOut rm_X9_isText 0 := ⟨_, _, gX9_carryOut_X9_isText, rfl, ⟨by decide +kernel, by decide +kernel, by decide +kernel⟩, ⟨Nat.le_of_ble_eq_true rfl, Nat.le_of_ble_eq_true rfl⟩, rfl, rfl⟩
theorem cs_X9_carryOut_57 : zCV RX9 wsX9_carryOut 57 9 yX9_records wsX9_records cX9_records 2 none rm_X9_carryOut rm_X9_records 0 := ⟨_, _, gX9_carryOut_X9_records, rfl, ⟨by decide +kernel, by decide +kernel, by decide +kernel⟩, ⟨Nat.le_of_ble_eq_true rfl, Nat.le_of_ble_eq_true rfl⟩, rfl, rfl⟩
theorem zW_X9_carryOut_186 : zW RX9 wsX9_carryOut 9 6 186 false (tyX9 6) := ⟨RX9, TX9, 17, tyX9, rfl, by decide +kernel, by decide, by decide +kernel, tyX9_ok, nmX9, rfl, rfl, rfl⟩
theorem zF_X9_carryOut_212 : zF RX9 wsX9_carryOut 9 9 212 := ⟨RX9, TX9, 17, rfl, by decide +kernel, by decide, by decide +kernel⟩
theorem cs_X9_carryOut_241 : zCV RX9 wsX9_carryOut 241 9 yX9_does wsX9_does cX9_does 6 (some .boolean) rm_X9_carryOut rm_X9_does 1 := ⟨_, _, gX9_carryOut_X9_does, rfl, ⟨by decide +kernel, by decide +kernel, by decide +kernel⟩, ⟨Nat.le_of_ble_eq_true rfl, Nat.le_of_ble_eq_true rfl⟩, rfl, rfl⟩
set_option maxRecDepth 100000 in
theorem c_X9_carryOut (l : Launch) (D : zD) (base : Nat) (y : Nat) (kp pd at' od fi la pc : Int) (f : Int → Int) (st : Int → Int → Int) (P W T : Int → Int) (hq : base ≤ y) (hI : PInv f) (hkp : 0 ≤ kp ∧ kp ≤ 6) (hpd : 0 ≤ pd ∧ pd ≤ 80) (hPr : ∀ i : Int, 0 ≤ i → i < pd → 33 ≤ P i ∧ P i ≤ 126) : Ct l yX9_carryOut wsX9_carryOut rm_X9_carryOut D base [.ref y] (fun H => MoO D y kp pd at' od fi la pc H ∧ NwAt D y f H ∧ PaAt D y kp st H ∧ Ia D (y + 5) 80 P H ∧ Ia D (y + 6) 112 W H ∧ LnE D y H ∧ Ia D (y + 10) 120 T H) (PI (fun H v H1 => cyR pd P f = v ∧ (∃ f2 : Int → Int, MEq (cyG pd P f) f2 ∧ NwAt D y f2 H1) ∧ MoE D y (hsN kp (cyR pd P f)) (cyN pd P) H1 ∧ PaAt D y (hsN kp (cyR pd P f)) (hsS kp (cyR pd P f) st f) H1 ∧ Ia D (y + 5) 80 P H1 ∧ (∃ W2 : Int → Int, Ia D (y + 6) 112 W2 H1) ∧ LnE D y H1 ∧ (∃ T2 : Int → Int, Ia D (y + 10) 120 T2 H1) ∧ Fr (Un y (y + 3) (y + 6) (y + 11)) 0 H H1)) := by
  refine Ct.of (own := RX9) (cc := cX9_carryOut) (maxL := 2) (by decide +kernel) rfl (Nat.le_of_ble_eq_true rfl) rfl ?_
  intro K H X R hH hnm hP
  show G K 0 0 H 0 [(0, .ref y)] []
  obtain ⟨hO, hNw, hPa, hPd, hOr, hLn, hTk⟩ := hP
  have hnum := hI.nums
  refine g_aload_n (pc := 0) (pl := 0) X dX9_carryOut_0 rfl ?_
  refine gVi (pc := 1) (n2 := 0) (k2 := 0) X cs_X9_carryOut_231 (c_X9_isText (zl K) D base y kp pd at' od fi la pc f P W hq hpd hPr) rfl hO (by omega) ⟨hO, hNw, hPd, hOr⟩ rfl ⟨Nat.le_of_ble_eq_true rfl, Nat.le_of_ble_eq_true rfl⟩ dX9_carryOut_1 (Nat.le_of_ble_eq_true rfl) rfl rfl (fun v1 H1 hp1 hs1 => ?_)
  rcases hp1 with ⟨a2, od2, kk, W2, ⟨hfl, rfl, hod2, hk27, htx, hpe⟩ | ⟨hfl, ha0, ha80, rfl⟩, hO, hNw, hPd, hOr, hux⟩
  · skip
    obtain ⟨Ht, ht1, ht2⟩ := hux.part
    have hPan := (hPa.fr ht1 (by omega)).fr ht2 (by omega)
    have hLnn := (hLn.fr ht1 (by omega)).fr ht2 (by omega)
    have hTkn := (hTk.fr ht1 (by omega)).fr ht2 (by omega)
    clear hPa hLn hTk
    have hPa := hPan
    have hLn := hLnn
    have hTk := hTkn
    clear hPan hLnn hTkn
    refine g_if_ne (pc := 4) X 10 dX9_carryOut_4 (by decide) (by omega) (fun c4 => ?_) (fun c4 => ?_)
    · skip
      refine g_aload_n (pc := 10) (pl := 0) X dX9_carryOut_10 rfl ?_
      obtain ⟨ps, hPs, hst⟩ := id hPa
      refine gVv (pc := 11) (n2 := 0) (k2 := 0) X cs_X9_carryOut_57 (c_X9_records (zl K) D base y kp pd a2 od2 fi la pc f ps hq hkp) rfl hO (by omega) ⟨hO, hNw, hPs⟩ rfl ⟨Nat.le_of_ble_eq_true rfl, Nat.le_of_ble_eq_true rfl⟩ dX9_carryOut_11 (Nat.le_of_ble_eq_true rfl) rfl rfl (fun H2 hp11 hs11 => ?_)
      obtain ⟨hOn, hNwn, ⟨ps2, hPs2, hr2⟩, hfr⟩ := hp11
      replace hPd := hPd.fr hfr (by omega)
      replace hOr := hOr.fr hfr (by omega)
      replace hTk := hTk.fr hfr (by omega)
      replace hLn := hLn.fr hfr (by omega)
      have hPan : PaAt D y (hpN kp) (hpS kp st f) H2 := ⟨ps2, hPs2, hpS_rec hkp hst hr2⟩
      clear hO hNw hPa hPs
      have hO := hOn
      have hNw := hNwn
      have hPa := hPan
      clear hOn hNwn hPan hPs2
      refine g_aload_n (pc := 14) (pl := 0) X dX9_carryOut_14 rfl ?_
      refine g_iconst (pc := 15) X dX9_carryOut_15 ?_
      refine g_putf (pc := 16) X zW_X9_carryOut_186 hO (by omega) rfl rfl rfl dX9_carryOut_16 (fun H3 hOn hf3 => ?_)
      replace hNw := hNw.fr hf3 (by omega)
      replace hPd := hPd.fr hf3 (by omega)
      replace hOr := hOr.fr hf3 (by omega)
      replace hTk := hTk.fr hf3 (by omega)
      replace hPa := hPa.fr hf3 (by omega)
      replace hLn := hLn.fr hf3 (by omega)
      replace hO : Ob D y 9 [.ref (y + 1), .ref (y + 2), .int (J (hpN kp)), .ref (y + 3), .ref (y + 4), .ref (y + 5), .int (J 0), .int (J a2), .ref (y + 6), .int (J od2), .int (J fi), .int (J la), .int (J pc), .ref (y + 7), .ref (y + 8), .ref (y + 9), .ref (y + 10)] H3 := hOn
      clear hOn
      refine g_iconst (pc := 19) X dX9_carryOut_19 ?_
      refine g_istore_n (pc := 20) (lv' := [(1, _), (0, _)]) X dX9_carryOut_20 (by decide) rfl ?_
      have hL21 : ∀ (fu : Nat) (d : Nat) (di : Int) (gx fx T1 : Int → Int) (Hx : Heap), kk - d < fu → (di = (d : Int)) → (d ≤ kk) → ((caL pd P 80 0 0 f) = caL pd P (80 - d) (pls pd P d) (d : Int) gx) → (MEq gx fx) → (PInv gx) → (MoO D y (hpN kp) 0 a2 od2 fi la pc Hx) → (NwAt D y fx Hx) → (Ia D (y + 5) 80 P Hx) → (Ia D (y + 6) 112 W2 Hx) → (Ia D (y + 10) 120 T1 Hx) → (PaAt D y (hpN kp) (hpS kp st f) Hx) → (LnE D y Hx) → (Fr (Un y (y + 3) (y + 6) (y + 11)) 0 H Hx) → G K 0 0 Hx 21 [(0, .ref y), (1, .int (J di))] [] := by
        intro fu
        induction fu with
        | zero => intro d di gx fx T1 Hx hm; exact absurd hm (Nat.not_lt_zero _)
        | succ fu ih21 =>
          intro d di gx fx T1 Hx hm he h1 hw hE hG hO hNw hPd hOr hTk hPa hLn hu3
          subst he
          refine g_iload_n (pc := 21) (pl := 1) X dX9_carryOut_21 rfl ?_
          refine g_aload_n (pc := 22) (pl := 0) X dX9_carryOut_22 rfl ?_
          refine g_getf (pc := 23) X zF_X9_carryOut_212 hO rfl dX9_carryOut_23 ?_
          refine g_icmp_ge (pc := 26) X 43 dX9_carryOut_26 (by decide) (by omega) (by omega) (fun c26 => ?_) (fun c26 => ?_)
          · skip
            have hdk : d = kk := by omega
            refine g_iload_n (pc := 43) (pl := 1) X dX9_carryOut_43 rfl ?_
            refine g_iret (pc := 44) X R hH dX9_carryOut_44 ?_
            have hE9 : (caL pd P 80 0 0 f) = ((d : Int), gx) := by rw [hw, show 80 - d = 79 - d + 1 by omega]; exact caL_no (ord_end (by rw [hdk, hpe]; exact Int.le_refl _))
            have eR : cyR pd P f = (d : Int) := (if_neg (fun z => z hfl)).trans (by rw [hE9])
            have eG : cyG pd P f = gx := (if_neg (fun z => z hfl)).trans (by rw [hE9])
            have eN : cyN pd P = 0 := if_neg (fun z => z hfl)
            rw [eR, eG, eN]
            rw [show hsN kp ((d : Int)) = hpN kp from if_neg (by omega), show hsS kp ((d : Int)) st f = hpS kp st f from if_neg (by omega)]
            exact ⟨rfl, ⟨_, hE, hNw⟩, ⟨_, _, _, _, _, hO⟩, hPa, hPd, ⟨_, hOr⟩, hLn, ⟨_, hTk⟩, hu3⟩
          · skip
            refine g_aload_n (pc := 29) (pl := 0) X dX9_carryOut_29 rfl ?_
            refine g_iload_n (pc := 30) (pl := 1) X dX9_carryOut_30 rfl ?_
            have hto := htx d (by omega)
            have hb9 := pls_bd (n := pd) (f := P) (k := kk) (fun j hj => (htx j hj).1) (by omega) d (by omega)
            have hbo := ordE_bd (n := pd) (f := P) (p := pls pd P d) (by omega) (by omega)
            have hIx := hG.meq hE
            have hq9 := mq_obP (n := pd) (P := P) (p := pls pd P d) hE hG
            refine gVi (pc := 31) (n2 := 0) (k2 := 0) X cs_X9_carryOut_241 (c_X9_does (zl K) D base y (hpN kp) 0 a2 od2 fi la pc fx P W2 T1 pd (pls pd P d) d hq hIx hpd hPr (by omega) hto.1 (by omega) (by omega) hto.2) rfl hO (by omega) ⟨hO, hNw, hPd, hOr, hTk⟩ rfl ⟨Nat.le_of_ble_eq_true rfl, Nat.le_of_ble_eq_true rfl⟩ dX9_carryOut_31 (Nat.le_of_ble_eq_true rfl) rfl rfl (fun v31 H4 hp31 hs31 => ?_)
            rcases hp31 with ⟨⟨hR, rfl⟩ | ⟨hR, rfl⟩, ⟨f2, hm2, hNw⟩, hO, hPd, hOr, ⟨T2, hTk⟩, hud⟩
            · skip
              obtain ⟨Hd, hd1, hd2⟩ := hud.part
              have hPan := (hPa.fr hd1 (by omega)).fr hd2 (by omega)
              have hLnn := (hLn.fr hd1 (by omega)).fr hd2 (by omega)
              clear hPa hLn
              have hPa := hPan
              have hLn := hLnn
              clear hPan hLnn
              refine g_if_eq (pc := 34) X 43 dX9_carryOut_34 (by decide) (by omega) (fun c34 => ?_) (fun c34 => ?_)
              · skip
                exact absurd c34 (by decide)
              · skip
                refine g_iinc (pc := 37) (pl := 1) (x := (d : Int)) (lv' := [(1, _), (0, _)]) X dX9_carryOut_37 rfl (by decide) rfl ?_
                refine g_goto (pc := 40) X 21 dX9_carryOut_40 (by decide) ?_
                refine G.pick [1, 0] (lv' := [(0, _), (1, _)]) rfl ?_
                have e9 := caL_go (n := pd) (f := P) (k := 79 - d) (d := (d : Int)) (g := gx) hto.1 (by rw [hq9.1]; omega)
                rw [show 79 - d + 1 = 80 - d by omega, show 79 - d = 80 - (d + 1) by omega] at e9
                exact ih21 (d + 1) _ (obP pd P (pls pd P d) gx).2 f2 T2 H4 (by omega) (by omega) (by omega) (hw.trans e9) (hq9.2.trans hm2) hG.obP' hO hNw hPd hOr hTk hPa hLn (Fr.trans hu3 (hud.unw (by omega)))
            · skip
              obtain ⟨Hd, hd1, hd2⟩ := hud.part
              have hPan := (hPa.fr hd1 (by omega)).fr hd2 (by omega)
              have hLnn := (hLn.fr hd1 (by omega)).fr hd2 (by omega)
              clear hPa hLn
              have hPa := hPan
              have hLn := hLnn
              clear hPan hLnn
              refine g_if_eq (pc := 34) X 43 dX9_carryOut_34 (by decide) (by omega) (fun c34 => ?_) (fun c34 => ?_)
              · skip
                refine g_iload_n (pc := 43) (pl := 1) X dX9_carryOut_43 rfl ?_
                refine g_iret (pc := 44) X R hH dX9_carryOut_44 ?_
                have hE9 : (caL pd P 80 0 0 f) = ((d : Int), (obP pd P (pls pd P d) gx).2) := by rw [hw, show 80 - d = 79 - d + 1 by omega]; exact caL_stop hto.1 (by rw [hq9.1]; exact hR)
                have eR : cyR pd P f = (d : Int) := (if_neg (fun z => z hfl)).trans (by rw [hE9])
                have eG : cyG pd P f = (obP pd P (pls pd P d) gx).2 := (if_neg (fun z => z hfl)).trans (by rw [hE9])
                have eN : cyN pd P = 0 := if_neg (fun z => z hfl)
                rw [eR, eG, eN]
                rw [show hsN kp ((d : Int)) = hpN kp from if_neg (by omega), show hsS kp ((d : Int)) st f = hpS kp st f from if_neg (by omega)]
                exact ⟨rfl, ⟨_, (hq9.2.trans hm2), hNw⟩, ⟨_, _, _, _, _, hO⟩, hPa, hPd, ⟨_, hOr⟩, hLn, ⟨_, hTk⟩, (Fr.trans hu3 (hud.unw (by omega)))⟩
              · skip
                exact absurd (by decide) c34
      refine G.pick [1, 0] (lv' := [(0, _), (1, _)]) rfl ?_
      exact hL21 _ 0 _ f f T H3 (Nat.lt_succ_self _) rfl (by omega) rfl (MEq.refl f) hI hO hNw hPd hOr hTk hPa hLn (Fr.trans (hux.unw (by omega)) (Fr.trans (hfr.un (by omega)) (hf3.un (by omega))))
    · skip
      exact absurd c4 (by decide)
  · skip
    obtain ⟨Ht, ht1, ht2⟩ := hux.part
    have hPan := (hPa.fr ht1 (by omega)).fr ht2 (by omega)
    have hLnn := (hLn.fr ht1 (by omega)).fr ht2 (by omega)
    have hTkn := (hTk.fr ht1 (by omega)).fr ht2 (by omega)
    clear hPa hLn hTk
    have hPa := hPan
    have hLn := hLnn
    have hTk := hTkn
    clear hPan hLnn hTkn
    refine g_if_ne (pc := 4) X 10 dX9_carryOut_4 (by decide) (by omega) (fun c4 => ?_) (fun c4 => ?_)
    · skip
      exact absurd c4 (by decide)
    · skip
      refine g_bipush (pc := 7) X dX9_carryOut_7 (by decide +kernel) ?_
      refine g_iret (pc := 9) X R hH dX9_carryOut_9 ?_
      have hfl2 : ¬ flt pd P 80 0 = -6 := by omega
      have eR : cyR pd P f = -3 := if_pos hfl2
      have eG : cyG pd P f = f := if_pos hfl2
      have eN : cyN pd P = pd := if_pos hfl2
      rw [eR, eG, eN]
      rw [show hsN kp (-3) = kp from if_pos (by omega), show hsS kp (-3) st f = st from if_pos (by omega)]
      exact ⟨rfl, ⟨f, MEq.refl f, hNw⟩, ⟨_, _, _, _, _, hO⟩, hPa, hPd, ⟨_, hOr⟩, hLn, ⟨_, hTk⟩, (hux.unw (by omega))⟩

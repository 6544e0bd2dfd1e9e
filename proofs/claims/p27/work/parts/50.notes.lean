/-! the law's method that looks at the notes -/
theorem orA_or {g : Int → Int} {p : Int} (h0 : 0 ≤ p) (ho : 0 ≤ OW g p) : J ((orA g p.toNat : Nat) : Int) ||| J (OW g p) = J ((orA g (p + 1).toNat : Nat) : Int) := by
  rw [J_or (Int.natCast_nonneg _) ho, show (p + 1).toNat = p.toNat + 1 by omega, Int.toNat_natCast]
  show J ((orA g p.toNat ||| (OW g p).toNat : Nat) : Int) = J ((orA g p.toNat ||| (OW g (p.toNat : Int)).toNat : Nat) : Int)
  rw [Int.toNat_of_nonneg h0]
abbrev rm_L_notes : Room := { frames := 6, cells := 0, slots := 0, locals := 134 }
theorem cs_L_notes_9 : zCV RL wsL_notes 9 8 yX8_count wsX8_count cX8_count 2 (some .int) rm_L_notes rm_X8_count 1 := ⟨_, _, gL_notes_X8_count, rfl, ⟨by decide +kernel, by decide +kernel, by decide +kernel⟩, ⟨Nat.le_of_ble_eq_true rfl, Nat.le_of_ble_eq_true rfl⟩, rfl, rfl⟩
theorem cs_L_notes_31 : zCV RL wsL_notes 31 8 yX8_letter wsX8_letter cX8_letter 2 (some .int) rm_L_notes rm_X8_letter 1 := ⟨_, _, gL_notes_X8_letter, rfl, ⟨by decide +kernel, by decide +kernel, by decide +kernel⟩, ⟨Nat.le_of_ble_eq_true rfl, Nat.le_of_ble_eq_true rfl⟩, rfl, rfl⟩
theorem cs_L_notes_15 : zCV RL wsL_notes 15 8 yX8_of wsX8_of cX8_of 4 (some .int) rm_L_notes rm_X8_of 2 := ⟨_, _, gL_notes_X8_of, rfl, ⟨by decide +kernel, by decide +kernel, by decide +kernel⟩, ⟨Nat.le_of_ble_eq_true rfl, Nat.le_of_ble_eq_true rfl⟩, rfl, rfl⟩
theorem cs_L_notes_22 : zCV RL wsL_notes 22 8 yX8_at wsX8_at cX8_at 2 (some .int) rm_L_notes rm_X8_at 1 := ⟨_, _, gL_notes_X8_at, rfl, ⟨by decide +kernel, by decide +kernel, by decide +kernel⟩, ⟨Nat.le_of_ble_eq_true rfl, Nat.le_of_ble_eq_true rfl⟩, rfl, rfl⟩
theorem cs_L_notes_19 : zCV RL wsL_notes 19 8 yX8_could wsX8_could cX8_could 4 (some .int) rm_L_notes rm_X8_could 2 := ⟨_, _, gL_notes_X8_could, rfl, ⟨by decide +kernel, by decide +kernel, by decide +kernel⟩, ⟨Nat.le_of_ble_eq_true rfl, Nat.le_of_ble_eq_true rfl⟩, rfl, rfl⟩
theorem cs_L_notes_28 : zCV RL wsL_notes 28 8 yX8_word wsX8_word cX8_word 4 (some .int) rm_L_notes rm_X8_word 2 := ⟨_, _, gL_notes_X8_word, rfl, ⟨by decide +kernel, by decide +kernel, by decide +kernel⟩, ⟨Nat.le_of_ble_eq_true rfl, Nat.le_of_ble_eq_true rfl⟩, rfl, rfl⟩
theorem cs_L_notes_25 : zCV RL wsL_notes 25 8 yX8_printed wsX8_printed cX8_printed 3 (some .int) rm_L_notes rm_X8_printed 2 := ⟨_, _, gL_notes_X8_printed, rfl, ⟨by decide +kernel, by decide +kernel, by decide +kernel⟩, ⟨Nat.le_of_ble_eq_true rfl, Nat.le_of_ble_eq_true rfl⟩, rfl, rfl⟩
set_option maxRecDepth 100000 in
set_option maxHeartbeats 4000000 in
theorem c_L_notes (l : Launch) (D : zD) (base : Nat) (x lo : Nat) (m : Int) (sa sl : Int → Option Nat) (st ss : Int → Int → Int) (g : Int → Int) (n : Int) (f : Int → Int) (hq : base ≤ x) (hlo : x + 140 ≤ lo) (hI : PInv g) (hQ : Qn g) : Ct l yL_notes wsL_notes rm_L_notes D base [.ref x] (fun H => AnAt D x lo m sa sl st ss g n f H) (PI (fun H v H1 => 1 = v ∧ AnAt D x lo m sa sl st ss g n f H1 ∧ Fz x lo H H1)) := by
  refine Ct.of (own := RL) (cc := cL_notes) (maxL := 11) (by decide +kernel) rfl (Nat.le_of_ble_eq_true rfl) rfl ?_
  intro K H X R hH hnm hP
  show G K 0 0 H 0 [(0, .ref x)] []
  have hA := hP
  have hO := hA.1
  have hF := Fz.refl x lo H
  have hnum := hI.nums
  refine g_iconst (pc := 0) X dL_notes_0 ?_
  refine g_istore_n (pc := 1) (lv' := [(1, _), (0, _)]) X dL_notes_1 (by decide) rfl ?_
  refine g_iconst (pc := 2) X dL_notes_2 ?_
  refine g_istore_n (pc := 3) (lv' := [(2, _), (1, _), (0, _)]) X dL_notes_3 (by decide) rfl ?_
  refine g_iconst (pc := 4) X dL_notes_4 ?_
  refine g_istore_n (pc := 5) (lv' := [(3, _), (2, _), (1, _), (0, _)]) X dL_notes_5 (by decide) rfl ?_
  refine g_iconst (pc := 6) X dL_notes_6 ?_
  refine g_istore (pc := 7) (lv' := [(4, _), (3, _), (2, _), (1, _), (0, _)]) X dL_notes_7 (by decide) rfl ?_
  refine g_aload_n (pc := 9) (pl := 4) X dL_notes_9 rfl ?_
  refine g_iconst (pc := 10) X dL_notes_10 ?_
  refine gVi (pc := 11) (n2 := 0) (k2 := 0) X cs_L_notes_9 (c_X8_count (zl K) D base x lo m sa sl st ss g n f 0 hq hlo hI (by omega)) rfl hO (by omega) hA rfl ⟨Nat.le_of_ble_eq_true rfl, Nat.le_of_ble_eq_true rfl⟩ dL_notes_11 (Nat.le_of_ble_eq_true rfl) rfl rfl (fun v11 H1 hp11 hs11 => ?_)
  obtain ⟨hv, hA1, hF1⟩ := hp11
  rw [ct_0] at hv
  subst hv
  replace hF := hF.trans hF1
  replace hA := hA1
  replace hO := hA.1
  clear hA1 hF1 hs11
  refine g_bipush (pc := 14) X dL_notes_14 (by decide +kernel) ?_
  refine g_icmp_gt (pc := 16) X 33 dL_notes_16 (by decide) (by omega) (by omega) (fun c16 => ?_) (fun c16 => ?_)
  · skip
    omega
  · skip
    refine g_aload_n (pc := 19) (pl := 4) X dL_notes_19 rfl ?_
    refine g_iconst (pc := 20) X dL_notes_20 ?_
    refine gVi (pc := 21) (n2 := 0) (k2 := 0) X cs_L_notes_9 (c_X8_count (zl K) D base x lo m sa sl st ss g n f 1 hq hlo hI (by omega)) rfl hO (by omega) hA rfl ⟨Nat.le_of_ble_eq_true rfl, Nat.le_of_ble_eq_true rfl⟩ dL_notes_21 (Nat.le_of_ble_eq_true rfl) rfl rfl (fun v21 H2 hp21 hs21 => ?_)
    obtain ⟨hv, hA1, hF1⟩ := hp21
    rw [ct_1] at hv
    subst hv
    replace hF := hF.trans hF1
    replace hA := hA1
    replace hO := hA.1
    clear hA1 hF1 hs21
    refine g_bipush (pc := 24) X dL_notes_24 (by decide +kernel) ?_
    refine g_icmp_gt (pc := 26) X 33 dL_notes_26 (by decide) (by omega) (by omega) (fun c26 => ?_) (fun c26 => ?_)
    · skip
      omega
    · skip
      refine g_iconst (pc := 29) X dL_notes_29 ?_
      refine g_goto (pc := 30) X 34 dL_notes_30 (by decide) ?_
      refine g_istore (pc := 34) (lv' := [(5, _), (4, _), (3, _), (2, _), (1, _), (0, _)]) X dL_notes_34 (by decide) rfl ?_
      refine g_iconst (pc := 36) X dL_notes_36 ?_
      refine g_istore (pc := 37) (lv' := [(6, _), (5, _), (4, _), (3, _), (2, _), (1, _), (0, _)]) X dL_notes_37 (by decide) rfl ?_
      have hL39 : ∀ (fu : Nat) (i o r t : Int) (Hx : Heap), (g 1 - i).toNat < fu → (0 ≤ i ∧ i ≤ g 1) → (o = cnt (fun n => decide (stt g n = 1)) i.toNat) → (r = cnt (fun n => decide (stt g n = 2)) i.toNat) → (t = cnt (fun n => decide (1 < ntP g n)) i.toNat) → (AnAt D x lo m sa sl st ss g n f Hx) → (Fz x lo H Hx) → G K 0 0 Hx 39 [(0, .ref x), (1, .int (J o)), (2, .int (J r)), (3, .int (J t)), (4, .int (J 0)), (5, .int (J 1)), (6, .int (J i))] [] := by
        intro fu
        induction fu with
        | zero => intro i o r t Hx hm; exact absurd hm (Nat.not_lt_zero _)
        | succ fu ih39 =>
          intro i o r t Hx hm h1 ho hr ht hA hF
          have hO := hA.1
          refine g_iload (pc := 39) (pl := 6) X dL_notes_39 rfl ?_
          refine g_aload_n (pc := 41) (pl := 0) X dL_notes_41 rfl ?_
          refine g_iconst (pc := 42) X dL_notes_42 ?_
          refine gVi (pc := 43) (n2 := 0) (k2 := 0) X cs_L_notes_9 (c_X8_count (zl K) D base x lo m sa sl st ss g n f 1 hq hlo hI (by omega)) rfl hO (by omega) hA rfl ⟨Nat.le_of_ble_eq_true rfl, Nat.le_of_ble_eq_true rfl⟩ dL_notes_43 (Nat.le_of_ble_eq_true rfl) rfl rfl (fun v43 H3 hp43 hs43 => ?_)
          obtain ⟨hv, hA1, hF1⟩ := hp43
          rw [ct_1] at hv
          subst hv
          replace hF := hF.trans hF1
          replace hA := hA1
          replace hO := hA.1
          clear hA1 hF1 hs43
          refine g_icmp_ge (pc := 46) X 630 dL_notes_46 (by decide) (by omega) (by omega) (fun c46 => ?_) (fun c46 => ?_)
          · skip
            have e39 : i = g 1 := by omega
            subst e39
            have ho1 : o = cst g 1 := ho
            have hr1 : r = cst g 2 := hr
            have ht1 : t = ptd g := ht
            clear ho hr ht
            refine g_iconst (pc := 630) X dL_notes_630 ?_
            refine g_istore (pc := 631) (lv' := [(6, _), (0, _), (1, _), (2, _), (3, _), (4, _), (5, _)]) X dL_notes_631 (by decide) rfl ?_
            have hL633 : ∀ (fu : Nat) (p a : Int) (Hz : Heap), (g 0 - p).toNat < fu → (0 ≤ p ∧ p ≤ g 0) → (a = ((orA g p.toNat : Nat) : Int)) → (AnAt D x lo m sa sl st ss g n f Hz) → (Fz x lo H Hz) → G K 0 0 Hz 633 [(0, .ref x), (1, .int (J o)), (2, .int (J r)), (3, .int (J t)), (4, .int (J a)), (5, .int (J 1)), (6, .int (J p))] [] := by
              intro fu
              induction fu with
              | zero => intro p a Hz hm; exact absurd hm (Nat.not_lt_zero _)
              | succ fu ih633 =>
                intro p a Hz hm h3 ha hA hF
                subst ha
                have hO := hA.1
                refine g_iload (pc := 633) (pl := 6) X dL_notes_633 rfl ?_
                refine g_aload_n (pc := 635) (pl := 0) X dL_notes_635 rfl ?_
                refine g_iconst (pc := 636) X dL_notes_636 ?_
                refine gVi (pc := 637) (n2 := 0) (k2 := 0) X cs_L_notes_9 (c_X8_count (zl K) D base x lo m sa sl st ss g n f 0 hq hlo hI (by omega)) rfl hO (by omega) hA rfl ⟨Nat.le_of_ble_eq_true rfl, Nat.le_of_ble_eq_true rfl⟩ dL_notes_637 (Nat.le_of_ble_eq_true rfl) rfl rfl (fun v637 H4 hp637 hs637 => ?_)
                obtain ⟨hv, hA1, hF1⟩ := hp637
                rw [ct_0] at hv
                subst hv
                replace hF := hF.trans hF1
                replace hA := hA1
                replace hO := hA.1
                clear hA1 hF1 hs637
                refine g_icmp_ge (pc := 640) X 707 dL_notes_640 (by decide) (by omega) (by omega) (fun c640 => ?_) (fun c640 => ?_)
                · skip
                  have e633 : p = g 0 := by omega
                  subst e633
                  have hba := orA_bd hI (g 0).toNat (by omega)
                  refine g_iconst (pc := 707) X dL_notes_707 ?_
                  refine g_istore (pc := 708) (lv' := [(6, _), (0, _), (1, _), (2, _), (3, _), (4, _), (5, _)]) X dL_notes_708 (by decide) rfl ?_
                  have hL710 : ∀ (fu : Nat) (j : Int) (Hw : Heap), (g 1 - j).toNat < fu → (0 ≤ j ∧ j ≤ g 1) → (AnAt D x lo m sa sl st ss g n f Hw) → (Fz x lo H Hw) → G K 0 0 Hw 710 [(0, .ref x), (1, .int (J o)), (2, .int (J r)), (3, .int (J t)), (4, .int (J ((orA g (g 0).toNat : Nat) : Int))), (5, .int (J 1)), (6, .int (J j))] [] := by
                    intro fu
                    induction fu with
                    | zero => intro j Hw hm; exact absurd hm (Nat.not_lt_zero _)
                    | succ fu ih710 =>
                      intro j Hw hm h4 hA hF
                      have hO := hA.1
                      refine g_iload (pc := 710) (pl := 6) X dL_notes_710 rfl ?_
                      refine g_aload_n (pc := 712) (pl := 0) X dL_notes_712 rfl ?_
                      refine g_iconst (pc := 713) X dL_notes_713 ?_
                      refine gVi (pc := 714) (n2 := 0) (k2 := 0) X cs_L_notes_9 (c_X8_count (zl K) D base x lo m sa sl st ss g n f 1 hq hlo hI (by omega)) rfl hO (by omega) hA rfl ⟨Nat.le_of_ble_eq_true rfl, Nat.le_of_ble_eq_true rfl⟩ dL_notes_714 (Nat.le_of_ble_eq_true rfl) rfl rfl (fun v714 H5 hp714 hs714 => ?_)
                      obtain ⟨hv, hA1, hF1⟩ := hp714
                      rw [ct_1] at hv
                      subst hv
                      replace hF := hF.trans hF1
                      replace hA := hA1
                      replace hO := hA.1
                      clear hA1 hF1 hs714
                      refine g_icmp_ge (pc := 717) X 763 dL_notes_717 (by decide) (by omega) (by omega) (fun c717 => ?_) (fun c717 => ?_)
                      · skip
                        have hc1 : 0 ≤ cst g 1 ∧ cst g 1 ≤ (g 1).toNat := cnt_bd _ _
                        have hc2 : 0 ≤ cst g 2 ∧ cst g 2 ≤ (g 1).toNat := cnt_bd _ _
                        have hc3 : 0 ≤ ptd g ∧ ptd g ≤ (g 1).toNat := cnt_bd _ _
                        refine g_iload (pc := 763) (pl := 5) X dL_notes_763 rfl ?_
                        refine g_if_eq (pc := 765) X 812 dL_notes_765 (by decide) (by omega) (fun c765 => ?_) (fun c765 => ?_)
                        · skip
                          exact absurd c765 (by decide)
                        · skip
                          refine g_iload_n (pc := 768) (pl := 1) X dL_notes_768 rfl ?_
                          refine g_aload_n (pc := 769) (pl := 0) X dL_notes_769 rfl ?_
                          refine g_iconst (pc := 770) X dL_notes_770 ?_
                          refine gVi (pc := 771) (n2 := 0) (k2 := 0) X cs_L_notes_9 (c_X8_count (zl K) D base x lo m sa sl st ss g n f 2 hq hlo hI (by omega)) rfl hO (by omega) hA rfl ⟨Nat.le_of_ble_eq_true rfl, Nat.le_of_ble_eq_true rfl⟩ dL_notes_771 (Nat.le_of_ble_eq_true rfl) rfl rfl (fun v771 H6 hp771 hs771 => ?_)
                          obtain ⟨hv, hA1, hF1⟩ := hp771
                          rw [ct_2] at hv
                          subst hv
                          replace hF := hF.trans hF1
                          replace hA := hA1
                          replace hO := hA.1
                          clear hA1 hF1 hs771
                          refine g_icmp_ne (pc := 774) X 812 dL_notes_774 (by decide) (by omega) (by omega) (fun c774 => ?_) (fun c774 => ?_)
                          · skip
                            omega
                          · skip
                            refine g_iload_n (pc := 777) (pl := 2) X dL_notes_777 rfl ?_
                            refine g_aload_n (pc := 778) (pl := 0) X dL_notes_778 rfl ?_
                            refine g_iconst (pc := 779) X dL_notes_779 ?_
                            refine gVi (pc := 780) (n2 := 0) (k2 := 0) X cs_L_notes_9 (c_X8_count (zl K) D base x lo m sa sl st ss g n f 3 hq hlo hI (by omega)) rfl hO (by omega) hA rfl ⟨Nat.le_of_ble_eq_true rfl, Nat.le_of_ble_eq_true rfl⟩ dL_notes_780 (Nat.le_of_ble_eq_true rfl) rfl rfl (fun v780 H7 hp780 hs780 => ?_)
                            obtain ⟨hv, hA1, hF1⟩ := hp780
                            rw [ct_3] at hv
                            subst hv
                            replace hF := hF.trans hF1
                            replace hA := hA1
                            replace hO := hA.1
                            clear hA1 hF1 hs780
                            refine g_icmp_ne (pc := 783) X 812 dL_notes_783 (by decide) (by omega) (by omega) (fun c783 => ?_) (fun c783 => ?_)
                            · skip
                              omega
                            · skip
                              refine g_iload_n (pc := 786) (pl := 3) X dL_notes_786 rfl ?_
                              refine g_aload_n (pc := 787) (pl := 0) X dL_notes_787 rfl ?_
                              refine g_iconst (pc := 788) X dL_notes_788 ?_
                              refine gVi (pc := 789) (n2 := 0) (k2 := 0) X cs_L_notes_9 (c_X8_count (zl K) D base x lo m sa sl st ss g n f 4 hq hlo hI (by omega)) rfl hO (by omega) hA rfl ⟨Nat.le_of_ble_eq_true rfl, Nat.le_of_ble_eq_true rfl⟩ dL_notes_789 (Nat.le_of_ble_eq_true rfl) rfl rfl (fun v789 H8 hp789 hs789 => ?_)
                              obtain ⟨hv, hA1, hF1⟩ := hp789
                              rw [ct_4] at hv
                              subst hv
                              replace hF := hF.trans hF1
                              replace hA := hA1
                              replace hO := hA.1
                              clear hA1 hF1 hs789
                              refine g_icmp_ne (pc := 792) X 812 dL_notes_792 (by decide) (by omega) (by omega) (fun c792 => ?_) (fun c792 => ?_)
                              · skip
                                omega
                              · skip
                                refine g_aload_n (pc := 795) (pl := 0) X dL_notes_795 rfl ?_
                                refine g_aload_n (pc := 796) (pl := 0) X dL_notes_796 rfl ?_
                                refine g_iconst (pc := 797) X dL_notes_797 ?_
                                refine gVi (pc := 798) (n2 := 0) (k2 := 0) X cs_L_notes_9 (c_X8_count (zl K) D base x lo m sa sl st ss g n f 0 hq hlo hI (by omega)) rfl hO (by omega) hA rfl ⟨Nat.le_of_ble_eq_true rfl, Nat.le_of_ble_eq_true rfl⟩ dL_notes_798 (Nat.le_of_ble_eq_true rfl) rfl rfl (fun v798 H9 hp798 hs798 => ?_)
                                obtain ⟨hv, hA1, hF1⟩ := hp798
                                rw [ct_0] at hv
                                subst hv
                                replace hF := hF.trans hF1
                                replace hA := hA1
                                replace hO := hA.1
                                clear hA1 hF1 hs798
                                refine gVi (pc := 801) (n2 := 0) (k2 := 0) X cs_L_notes_31 (c_X8_letter (zl K) D base x lo m sa sl st ss g n f (g 0) hq hlo hI (by omega)) rfl hO (by omega) hA rfl ⟨Nat.le_of_ble_eq_true rfl, Nat.le_of_ble_eq_true rfl⟩ dL_notes_801 (Nat.le_of_ble_eq_true rfl) rfl rfl (fun v801 H10 hp801 hs801 => ?_)
                                obtain ⟨hv, hA1, hF1⟩ := hp801
                                rw [show itm (g 0) (LT g) (g 0) = -1 from if_neg (by omega)] at hv
                                subst hv
                                replace hF := hF.trans hF1
                                replace hA := hA1
                                replace hO := hA.1
                                clear hA1 hF1 hs801
                                refine g_iconst (pc := 804) X dL_notes_804 ?_
                                refine g_icmp_ne (pc := 805) X 812 dL_notes_805 (by decide) (by omega) (by omega) (fun c805 => ?_) (fun c805 => ?_)
                                · skip
                                  omega
                                · skip
                                  refine g_iconst (pc := 808) X dL_notes_808 ?_
                                  refine g_goto (pc := 809) X 813 dL_notes_809 (by decide) ?_
                                  refine g_zret (pc := 813) X R hH (by first | exact Or.inl rfl | exact Or.inr rfl | omega) dL_notes_813 ?_
                                  exact ⟨rfl, hA, hF⟩
                      · skip
                        refine g_iload (pc := 720) (pl := 5) X dL_notes_720 rfl ?_
                        refine g_if_eq (pc := 722) X 763 dL_notes_722 (by decide) (by omega) (fun c722 => ?_) (fun c722 => ?_)
                        · skip
                          exact absurd c722 (by decide)
                        · skip
                          have hj : isN g j := ⟨by omega, by omega⟩
                          have hj0 := of_0 hj
                          have hj1 := stt_all g j
                          by_cases cz : stt g j = 0
                          · skip
                            refine g_iload (pc := 725) (pl := 4) X dL_notes_725 rfl ?_
                            refine g_iload (pc := 727) (pl := 6) X dL_notes_727 rfl ?_
                            refine g_ishr (pc := 729) (z := J ((((orA g (g 0).toNat : Nat) : Int).toNat / 2 ^ j.toNat : Nat) : Int)) X dL_notes_729 (J_shr (by omega) (by omega)) ?_
                            refine g_iconst (pc := 730) X dL_notes_730 ?_
                            refine g_iand (pc := 731) (z := J 1) X dL_notes_731 ((J_and (by first | exact Int.natCast_nonneg _ | exact Int.ofNat_nonneg _) (by omega)).trans (by rw [btt_div, if_pos ((orA_said hI hj).mpr cz)])) ?_
                            refine g_aload_n (pc := 732) (pl := 0) X dL_notes_732 rfl ?_
                            refine g_iload (pc := 733) (pl := 6) X dL_notes_733 rfl ?_
                            refine g_iconst (pc := 735) X dL_notes_735 ?_
                            refine gVi (pc := 736) (n2 := 0) (k2 := 0) X cs_L_notes_15 (c_X8_of (zl K) D base x lo m sa sl st ss g n f j 0 hq hlo hI (by omega) (by omega)) rfl hO (by omega) hA rfl ⟨Nat.le_of_ble_eq_true rfl, Nat.le_of_ble_eq_true rfl⟩ dL_notes_736 (Nat.le_of_ble_eq_true rfl) rfl rfl (fun v736 H6 hp736 hs736 => ?_)
                            obtain ⟨hv, hA1, hF1⟩ := hp736
                            subst hv
                            replace hF := hF.trans hF1
                            replace hA := hA1
                            replace hO := hA.1
                            clear hA1 hF1 hs736
                            refine g_if_ne (pc := 739) X 746 dL_notes_739 (by decide) (by omega) (fun c739 => ?_) (fun c739 => ?_)
                            · skip
                              omega
                            · skip
                              refine g_iconst (pc := 742) X dL_notes_742 ?_
                              refine g_goto (pc := 743) X 747 dL_notes_743 (by decide) ?_
                              refine g_icmp_ne (pc := 747) X 754 dL_notes_747 (by decide) (by omega) (by omega) (fun c747 => ?_) (fun c747 => ?_)
                              · skip
                                omega
                              · skip
                                refine g_iconst (pc := 750) X dL_notes_750 ?_
                                refine g_goto (pc := 751) X 755 dL_notes_751 (by decide) ?_
                                refine g_istore (pc := 755) (lv' := [(5, _), (0, _), (1, _), (2, _), (3, _), (4, _), (6, _)]) X dL_notes_755 (by decide) rfl ?_
                                refine g_iinc (pc := 757) (pl := 6) (x := j) (lv' := [(6, _), (5, _), (0, _), (1, _), (2, _), (3, _), (4, _)]) X dL_notes_757 rfl (by decide) rfl ?_
                                refine g_goto (pc := 760) X 710 dL_notes_760 (by decide) ?_
                                refine G.pick [2, 3, 4, 5, 6, 1, 0] (lv' := [(0, _), (1, _), (2, _), (3, _), (4, _), (5, _), (6, _)]) rfl ?_
                                exact ih710 (j + 1) H6 (by omega) (by omega) hA hF
                          · skip
                            refine g_iload (pc := 725) (pl := 4) X dL_notes_725 rfl ?_
                            refine g_iload (pc := 727) (pl := 6) X dL_notes_727 rfl ?_
                            refine g_ishr (pc := 729) (z := J ((((orA g (g 0).toNat : Nat) : Int).toNat / 2 ^ j.toNat : Nat) : Int)) X dL_notes_729 (J_shr (by omega) (by omega)) ?_
                            refine g_iconst (pc := 730) X dL_notes_730 ?_
                            refine g_iand (pc := 731) (z := J 0) X dL_notes_731 ((J_and (by first | exact Int.natCast_nonneg _ | exact Int.ofNat_nonneg _) (by omega)).trans (by rw [btt_div, if_neg (fun z => cz ((orA_said hI hj).mp z))])) ?_
                            refine g_aload_n (pc := 732) (pl := 0) X dL_notes_732 rfl ?_
                            refine g_iload (pc := 733) (pl := 6) X dL_notes_733 rfl ?_
                            refine g_iconst (pc := 735) X dL_notes_735 ?_
                            refine gVi (pc := 736) (n2 := 0) (k2 := 0) X cs_L_notes_15 (c_X8_of (zl K) D base x lo m sa sl st ss g n f j 0 hq hlo hI (by omega) (by omega)) rfl hO (by omega) hA rfl ⟨Nat.le_of_ble_eq_true rfl, Nat.le_of_ble_eq_true rfl⟩ dL_notes_736 (Nat.le_of_ble_eq_true rfl) rfl rfl (fun v736 H6 hp736 hs736 => ?_)
                            obtain ⟨hv, hA1, hF1⟩ := hp736
                            subst hv
                            replace hF := hF.trans hF1
                            replace hA := hA1
                            replace hO := hA.1
                            clear hA1 hF1 hs736
                            refine g_if_ne (pc := 739) X 746 dL_notes_739 (by decide) (by omega) (fun c739 => ?_) (fun c739 => ?_)
                            · skip
                              refine g_iconst (pc := 746) X dL_notes_746 ?_
                              refine g_icmp_ne (pc := 747) X 754 dL_notes_747 (by decide) (by omega) (by omega) (fun c747 => ?_) (fun c747 => ?_)
                              · skip
                                omega
                              · skip
                                refine g_iconst (pc := 750) X dL_notes_750 ?_
                                refine g_goto (pc := 751) X 755 dL_notes_751 (by decide) ?_
                                refine g_istore (pc := 755) (lv' := [(5, _), (0, _), (1, _), (2, _), (3, _), (4, _), (6, _)]) X dL_notes_755 (by decide) rfl ?_
                                refine g_iinc (pc := 757) (pl := 6) (x := j) (lv' := [(6, _), (5, _), (0, _), (1, _), (2, _), (3, _), (4, _)]) X dL_notes_757 rfl (by decide) rfl ?_
                                refine g_goto (pc := 760) X 710 dL_notes_760 (by decide) ?_
                                refine G.pick [2, 3, 4, 5, 6, 1, 0] (lv' := [(0, _), (1, _), (2, _), (3, _), (4, _), (5, _), (6, _)]) rfl ?_
                                exact ih710 (j + 1) H6 (by omega) (by omega) hA hF
                            · skip
                              omega
                  refine G.pick [1, 2, 3, 4, 5, 6, 0] (lv' := [(0, _), (1, _), (2, _), (3, _), (4, _), (5, _), (6, _)]) rfl ?_
                  exact hL710 _ 0 H4 (Nat.lt_succ_self _) (by omega) hA hF
                · skip
                  have hop := hI.own p (by omega) (by omega)
                  have hlt := hI.let p (by omega) (by omega)
                  have hbt := ow_lt hI (i := p) (by omega) (by omega)
                  have hba := orA_bd hI p.toNat (by omega)
                  refine g_iload (pc := 643) (pl := 5) X dL_notes_643 rfl ?_
                  refine g_if_eq (pc := 645) X 707 dL_notes_645 (by decide) (by omega) (fun c645 => ?_) (fun c645 => ?_)
                  · skip
                    exact absurd c645 (by decide)
                  · skip
                    refine g_aload_n (pc := 648) (pl := 0) X dL_notes_648 rfl ?_
                    refine g_iload (pc := 649) (pl := 6) X dL_notes_649 rfl ?_
                    refine gVi (pc := 651) (n2 := 0) (k2 := 0) X cs_L_notes_22 (c_X8_at (zl K) D base x lo m sa sl st ss g n f p hq hlo hI (by omega)) rfl hO (by omega) hA rfl ⟨Nat.le_of_ble_eq_true rfl, Nat.le_of_ble_eq_true rfl⟩ dL_notes_651 (Nat.le_of_ble_eq_true rfl) rfl rfl (fun v651 H5 hp651 hs651 => ?_)
                    obtain ⟨hv, hA1, hF1⟩ := hp651
                    rw [show itm (g 0) (OW g) p = OW g p from if_pos (by omega)] at hv
                    subst hv
                    replace hF := hF.trans hF1
                    replace hA := hA1
                    replace hO := hA.1
                    clear hA1 hF1 hs651
                    refine g_istore (pc := 654) (lv' := [(7, _), (0, _), (1, _), (2, _), (3, _), (4, _), (5, _), (6, _)]) X dL_notes_654 (by decide) rfl ?_
                    refine g_iload (pc := 656) (pl := 5) X dL_notes_656 rfl ?_
                    refine g_iload (pc := 658) (pl := 0) X dL_notes_658 rfl ?_
                    refine g_ior (pc := 660) (z := J ((orA g (p + 1).toNat : Nat) : Int)) X dL_notes_660 (orA_or (by omega) hop.1) ?_
                    refine g_istore (pc := 661) (lv' := [(4, _), (7, _), (0, _), (1, _), (2, _), (3, _), (5, _), (6, _)]) X dL_notes_661 (by decide) rfl ?_
                    refine g_aload_n (pc := 663) (pl := 2) X dL_notes_663 rfl ?_
                    refine g_iload (pc := 664) (pl := 7) X dL_notes_664 rfl ?_
                    refine gVi (pc := 666) (n2 := 0) (k2 := 0) X cs_L_notes_31 (c_X8_letter (zl K) D base x lo m sa sl st ss g n f p hq hlo hI (by omega)) rfl hO (by omega) hA rfl ⟨Nat.le_of_ble_eq_true rfl, Nat.le_of_ble_eq_true rfl⟩ dL_notes_666 (Nat.le_of_ble_eq_true rfl) rfl rfl (fun v666 H6 hp666 hs666 => ?_)
                    obtain ⟨hv, hA1, hF1⟩ := hp666
                    rw [show itm (g 0) (LT g) p = LT g p from if_pos (by omega)] at hv
                    subst hv
                    replace hF := hF.trans hF1
                    replace hA := hA1
                    replace hO := hA.1
                    clear hA1 hF1 hs666
                    refine g_if_lt (pc := 669) X 698 dL_notes_669 (by decide) (by omega) (fun c669 => ?_) (fun c669 => ?_)
                    · skip
                      omega
                    · skip
                      refine g_aload_n (pc := 672) (pl := 2) X dL_notes_672 rfl ?_
                      refine g_iload (pc := 673) (pl := 7) X dL_notes_673 rfl ?_
                      refine gVi (pc := 675) (n2 := 0) (k2 := 0) X cs_L_notes_31 (c_X8_letter (zl K) D base x lo m sa sl st ss g n f p hq hlo hI (by omega)) rfl hO (by omega) hA rfl ⟨Nat.le_of_ble_eq_true rfl, Nat.le_of_ble_eq_true rfl⟩ dL_notes_675 (Nat.le_of_ble_eq_true rfl) rfl rfl (fun v675 H7 hp675 hs675 => ?_)
                      obtain ⟨hv, hA1, hF1⟩ := hp675
                      rw [show itm (g 0) (LT g) p = LT g p from if_pos (by omega)] at hv
                      subst hv
                      replace hF := hF.trans hF1
                      replace hA := hA1
                      replace hO := hA.1
                      clear hA1 hF1 hs675
                      refine g_bipush (pc := 678) X dL_notes_678 (by decide +kernel) ?_
                      refine g_icmp_ge (pc := 680) X 698 dL_notes_680 (by decide) (by omega) (by omega) (fun c680 => ?_) (fun c680 => ?_)
                      · skip
                        omega
                      · skip
                        refine g_iload (pc := 683) (pl := 1) X dL_notes_683 rfl ?_
                        refine g_aload_n (pc := 685) (pl := 2) X dL_notes_685 rfl ?_
                        refine g_iconst (pc := 686) X dL_notes_686 ?_
                        refine gVi (pc := 687) (n2 := 0) (k2 := 0) X cs_L_notes_9 (c_X8_count (zl K) D base x lo m sa sl st ss g n f 1 hq hlo hI (by omega)) rfl hO (by omega) hA rfl ⟨Nat.le_of_ble_eq_true rfl, Nat.le_of_ble_eq_true rfl⟩ dL_notes_687 (Nat.le_of_ble_eq_true rfl) rfl rfl (fun v687 H8 hp687 hs687 => ?_)
                        obtain ⟨hv, hA1, hF1⟩ := hp687
                        rw [ct_1] at hv
                        subst hv
                        replace hF := hF.trans hF1
                        replace hA := hA1
                        replace hO := hA.1
                        clear hA1 hF1 hs687
                        refine g_ishr (pc := 690) (z := J 0) X dL_notes_690 ((J_shr (by omega) (by omega)).trans (by rw [Nat.div_eq_of_lt hbt]; rfl)) ?_
                        refine g_if_ne (pc := 691) X 698 dL_notes_691 (by decide) (by omega) (fun c691 => ?_) (fun c691 => ?_)
                        · skip
                          exact absurd c691 (by decide)
                        · skip
                          refine g_iconst (pc := 694) X dL_notes_694 ?_
                          refine g_goto (pc := 695) X 699 dL_notes_695 (by decide) ?_
                          refine g_istore (pc := 699) (lv' := [(5, _), (4, _), (7, _), (0, _), (1, _), (2, _), (3, _), (6, _)]) X dL_notes_699 (by decide) rfl ?_
                          refine g_iinc (pc := 701) (pl := 7) (x := p) (lv' := [(6, _), (5, _), (4, _), (7, _), (0, _), (1, _), (2, _), (3, _)]) X dL_notes_701 rfl (by decide) rfl ?_
                          refine g_goto (pc := 704) X 633 dL_notes_704 (by decide) ?_
                          refine G.pick [4, 5, 6, 7, 2, 1, 0] (lv' := [(0, _), (1, _), (2, _), (3, _), (4, _), (5, _), (6, _)]) rfl ?_
                          exact ih633 (p + 1) _ H8 (by omega) (by omega) rfl hA hF
            refine G.pick [1, 2, 3, 4, 5, 6, 0] (lv' := [(0, _), (1, _), (2, _), (3, _), (4, _), (5, _), (6, _)]) rfl ?_
            exact hL633 _ 0 0 H3 (Nat.lt_succ_self _) (by omega) rfl hA hF
          · skip
            refine g_iload (pc := 49) (pl := 5) X dL_notes_49 rfl ?_
            refine g_if_eq (pc := 51) X 630 dL_notes_51 (by decide) (by omega) (fun c51 => ?_) (fun c51 => ?_)
            · skip
              exact absurd c51 (by decide)
            · skip
              refine g_aload_n (pc := 54) (pl := 0) X dL_notes_54 rfl ?_
              refine g_iload (pc := 55) (pl := 6) X dL_notes_55 rfl ?_
              refine g_iconst (pc := 57) X dL_notes_57 ?_
              refine gVi (pc := 58) (n2 := 0) (k2 := 0) X cs_L_notes_15 (c_X8_of (zl K) D base x lo m sa sl st ss g n f i 0 hq hlo hI (by omega) (by omega)) rfl hO (by omega) hA rfl ⟨Nat.le_of_ble_eq_true rfl, Nat.le_of_ble_eq_true rfl⟩ dL_notes_58 (Nat.le_of_ble_eq_true rfl) rfl rfl (fun v58 H4 hp58 hs58 => ?_)
              obtain ⟨hv, hA1, hF1⟩ := hp58
              subst hv
              replace hF := hF.trans hF1
              replace hA := hA1
              replace hO := hA.1
              clear hA1 hF1 hs58
              refine g_istore (pc := 61) (lv' := [(7, _), (0, _), (1, _), (2, _), (3, _), (4, _), (5, _), (6, _)]) X dL_notes_61 (by decide) rfl ?_
              refine g_aload_n (pc := 63) (pl := 1) X dL_notes_63 rfl ?_
              refine g_iload (pc := 64) (pl := 7) X dL_notes_64 rfl ?_
              refine g_iconst (pc := 66) X dL_notes_66 ?_
              refine gVi (pc := 67) (n2 := 0) (k2 := 0) X cs_L_notes_15 (c_X8_of (zl K) D base x lo m sa sl st ss g n f i 1 hq hlo hI (by omega) (by omega)) rfl hO (by omega) hA rfl ⟨Nat.le_of_ble_eq_true rfl, Nat.le_of_ble_eq_true rfl⟩ dL_notes_67 (Nat.le_of_ble_eq_true rfl) rfl rfl (fun v67 H5 hp67 hs67 => ?_)
              obtain ⟨hv, hA1, hF1⟩ := hp67
              subst hv
              replace hF := hF.trans hF1
              replace hA := hA1
              replace hO := hA.1
              clear hA1 hF1 hs67
              refine g_istore (pc := 70) (lv' := [(8, _), (7, _), (0, _), (1, _), (2, _), (3, _), (4, _), (5, _), (6, _)]) X dL_notes_70 (by decide) rfl ?_
              refine g_aload_n (pc := 72) (pl := 2) X dL_notes_72 rfl ?_
              refine g_iload (pc := 73) (pl := 8) X dL_notes_73 rfl ?_
              refine g_iconst (pc := 75) X dL_notes_75 ?_
              refine gVi (pc := 76) (n2 := 0) (k2 := 0) X cs_L_notes_15 (c_X8_of (zl K) D base x lo m sa sl st ss g n f i 2 hq hlo hI (by omega) (by omega)) rfl hO (by omega) hA rfl ⟨Nat.le_of_ble_eq_true rfl, Nat.le_of_ble_eq_true rfl⟩ dL_notes_76 (Nat.le_of_ble_eq_true rfl) rfl rfl (fun v76 H6 hp76 hs76 => ?_)
              obtain ⟨hv, hA1, hF1⟩ := hp76
              subst hv
              replace hF := hF.trans hF1
              replace hA := hA1
              replace hO := hA.1
              clear hA1 hF1 hs76
              refine g_istore (pc := 79) (lv' := [(9, _), (8, _), (7, _), (0, _), (1, _), (2, _), (3, _), (4, _), (5, _), (6, _)]) X dL_notes_79 (by decide) rfl ?_
              have hin : isN g i := ⟨by omega, by omega⟩
              obtain ⟨a1, a2, a3, a4, a5, a6⟩ := sd_any hI hin
              have a7 := of_0 hin
              by_cases c0 : ofR g i 0 = 0
              · skip
                obtain ⟨s1, s2, s3, s4, s5, s6, s7, s8, s9, s10, s11, s12, s13⟩ := sd_stand hI hQ hin c0
                obtain ⟨w1, w2, w3, w4, w5, w6, w7⟩ := sd_word hI hin s13
                clear a6
                by_cases cp : 1 < ofR g i 5
                · skip
                  clear s11
                  refine g_iload_n (pc := 81) (pl := 4) X dL_notes_81 rfl ?_
                  refine g_iload (pc := 82) (pl := 2) X dL_notes_82 rfl ?_
                  refine g_iconst (pc := 84) X dL_notes_84 ?_
                  refine g_icmp_ne (pc := 85) X 92 dL_notes_85 (by decide) (by omega) (by omega) (fun c85 => ?_) (fun c85 => ?_)
                  · skip
                    refine g_iconst (pc := 92) X dL_notes_92 ?_
                    refine g_iadd (pc := 93) X dL_notes_93 ?_
                    refine g_istore_n (pc := 94) (lv' := [(1, _), (9, _), (8, _), (7, _), (0, _), (2, _), (3, _), (4, _), (5, _), (6, _)]) X dL_notes_94 (by decide) rfl ?_
                    refine g_iload_n (pc := 95) (pl := 5) X dL_notes_95 rfl ?_
                    refine g_iload (pc := 96) (pl := 3) X dL_notes_96 rfl ?_
                    refine g_iconst (pc := 98) X dL_notes_98 ?_
                    refine g_icmp_ne (pc := 99) X 106 dL_notes_99 (by decide) (by omega) (by omega) (fun c99 => ?_) (fun c99 => ?_)
                    · skip
                      refine g_iconst (pc := 106) X dL_notes_106 ?_
                      refine g_iadd (pc := 107) X dL_notes_107 ?_
                      refine g_istore_n (pc := 108) (lv' := [(2, _), (1, _), (9, _), (8, _), (7, _), (0, _), (3, _), (4, _), (5, _), (6, _)]) X dL_notes_108 (by decide) rfl ?_
                      refine g_iload_n (pc := 109) (pl := 6) X dL_notes_109 rfl ?_
                      refine g_iload (pc := 110) (pl := 4) X dL_notes_110 rfl ?_
                      refine g_if_ne (pc := 112) X 130 dL_notes_112 (by decide) (by omega) (fun c112 => ?_) (fun c112 => ?_)
                      · skip
                        omega
                      · skip
                        refine g_aload_n (pc := 115) (pl := 5) X dL_notes_115 rfl ?_
                        refine g_iload (pc := 116) (pl := 9) X dL_notes_116 rfl ?_
                        refine g_iconst (pc := 118) X dL_notes_118 ?_
                        refine gVi (pc := 119) (n2 := 0) (k2 := 0) X cs_L_notes_15 (c_X8_of (zl K) D base x lo m sa sl st ss g n f i 5 hq hlo hI (by omega) (by omega)) rfl hO (by omega) hA rfl ⟨Nat.le_of_ble_eq_true rfl, Nat.le_of_ble_eq_true rfl⟩ dL_notes_119 (Nat.le_of_ble_eq_true rfl) rfl rfl (fun v119 H7 hp119 hs119 => ?_)
                        obtain ⟨hv, hA1, hF1⟩ := hp119
                        subst hv
                        replace hF := hF.trans hF1
                        replace hA := hA1
                        replace hO := hA.1
                        clear hA1 hF1 hs119
                        refine g_iconst (pc := 122) X dL_notes_122 ?_
                        refine g_icmp_le (pc := 123) X 130 dL_notes_123 (by decide) (by omega) (by omega) (fun c123 => ?_) (fun c123 => ?_)
                        · skip
                          omega
                        · skip
                          refine g_iconst (pc := 126) X dL_notes_126 ?_
                          refine g_goto (pc := 127) X 131 dL_notes_127 (by decide) ?_
                          refine g_iadd (pc := 131) X dL_notes_131 ?_
                          refine g_istore_n (pc := 132) (lv' := [(3, _), (2, _), (1, _), (9, _), (8, _), (7, _), (0, _), (4, _), (5, _), (6, _)]) X dL_notes_132 (by decide) rfl ?_
                          refine g_iload (pc := 133) (pl := 5) X dL_notes_133 rfl ?_
                          refine g_iconst (pc := 135) X dL_notes_135 ?_
                          refine g_icmp_ne (pc := 136) X 143 dL_notes_136 (by decide) (by omega) (by omega) (fun c136 => ?_) (fun c136 => ?_)
                          · skip
                            refine g_iconst (pc := 143) X dL_notes_143 ?_
                            refine g_aload_n (pc := 144) (pl := 6) X dL_notes_144 rfl ?_
                            refine g_iload (pc := 145) (pl := 9) X dL_notes_145 rfl ?_
                            refine g_bipush (pc := 147) X dL_notes_147 (by decide +kernel) ?_
                            refine gVi (pc := 149) (n2 := 0) (k2 := 0) X cs_L_notes_15 (c_X8_of (zl K) D base x lo m sa sl st ss g n f i 6 hq hlo hI (by omega) (by omega)) rfl hO (by omega) hA rfl ⟨Nat.le_of_ble_eq_true rfl, Nat.le_of_ble_eq_true rfl⟩ dL_notes_149 (Nat.le_of_ble_eq_true rfl) rfl rfl (fun v149 H8 hp149 hs149 => ?_)
                            obtain ⟨hv, hA1, hF1⟩ := hp149
                            subst hv
                            replace hF := hF.trans hF1
                            replace hA := hA1
                            replace hO := hA.1
                            clear hA1 hF1 hs149
                            refine g_if_lt (pc := 152) X 159 dL_notes_152 (by decide) (by omega) (fun c152 => ?_) (fun c152 => ?_)
                            · skip
                              refine g_iconst (pc := 159) X dL_notes_159 ?_
                              refine g_icmp_ne (pc := 160) X 221 dL_notes_160 (by decide) (by omega) (by omega) (fun c160 => ?_) (fun c160 => ?_)
                              · skip
                                omega
                              · skip
                                refine g_iload (pc := 163) (pl := 4) X dL_notes_163 rfl ?_
                                refine g_bipush (pc := 165) X dL_notes_165 (by decide +kernel) ?_
                                refine g_icmp_ne (pc := 167) X 174 dL_notes_167 (by decide) (by omega) (by omega) (fun c167 => ?_) (fun c167 => ?_)
                                · skip
                                  refine g_iconst (pc := 174) X dL_notes_174 ?_
                                  refine g_iload (pc := 175) (pl := 3) X dL_notes_175 rfl ?_
                                  refine g_bipush (pc := 177) X dL_notes_177 (by decide +kernel) ?_
                                  refine g_icmp_ne (pc := 179) X 186 dL_notes_179 (by decide) (by omega) (by omega) (fun c179 => ?_) (fun c179 => ?_)
                                  · skip
                                    refine g_iconst (pc := 186) X dL_notes_186 ?_
                                    refine g_icmp_ne (pc := 187) X 221 dL_notes_187 (by decide) (by omega) (by omega) (fun c187 => ?_) (fun c187 => ?_)
                                    · skip
                                      omega
                                    · skip
                                      refine g_aload_n (pc := 190) (pl := 6) X dL_notes_190 rfl ?_
                                      refine g_iload (pc := 191) (pl := 9) X dL_notes_191 rfl ?_
                                      refine g_bipush (pc := 193) X dL_notes_193 (by decide +kernel) ?_
                                      refine gVi (pc := 195) (n2 := 0) (k2 := 0) X cs_L_notes_15 (c_X8_of (zl K) D base x lo m sa sl st ss g n f i 7 hq hlo hI (by omega) (by omega)) rfl hO (by omega) hA rfl ⟨Nat.le_of_ble_eq_true rfl, Nat.le_of_ble_eq_true rfl⟩ dL_notes_195 (Nat.le_of_ble_eq_true rfl) rfl rfl (fun v195 H9 hp195 hs195 => ?_)
                                      obtain ⟨hv, hA1, hF1⟩ := hp195
                                      subst hv
                                      replace hF := hF.trans hF1
                                      replace hA := hA1
                                      replace hO := hA.1
                                      clear hA1 hF1 hs195
                                      refine g_if_lt (pc := 198) X 221 dL_notes_198 (by decide) (by omega) (fun c198 => ?_) (fun c198 => ?_)
                                      · skip
                                        omega
                                      · skip
                                        refine g_aload_n (pc := 201) (pl := 6) X dL_notes_201 rfl ?_
                                        refine g_iload (pc := 202) (pl := 9) X dL_notes_202 rfl ?_
                                        refine g_bipush (pc := 204) X dL_notes_204 (by decide +kernel) ?_
                                        refine gVi (pc := 206) (n2 := 0) (k2 := 0) X cs_L_notes_15 (c_X8_of (zl K) D base x lo m sa sl st ss g n f i 7 hq hlo hI (by omega) (by omega)) rfl hO (by omega) hA rfl ⟨Nat.le_of_ble_eq_true rfl, Nat.le_of_ble_eq_true rfl⟩ dL_notes_206 (Nat.le_of_ble_eq_true rfl) rfl rfl (fun v206 H10 hp206 hs206 => ?_)
                                        obtain ⟨hv, hA1, hF1⟩ := hp206
                                        subst hv
                                        replace hF := hF.trans hF1
                                        replace hA := hA1
                                        replace hO := hA.1
                                        clear hA1 hF1 hs206
                                        refine g_aload_n (pc := 209) (pl := 6) X dL_notes_209 rfl ?_
                                        refine g_iconst (pc := 210) X dL_notes_210 ?_
                                        refine gVi (pc := 211) (n2 := 0) (k2 := 0) X cs_L_notes_9 (c_X8_count (zl K) D base x lo m sa sl st ss g n f 1 hq hlo hI (by omega)) rfl hO (by omega) hA rfl ⟨Nat.le_of_ble_eq_true rfl, Nat.le_of_ble_eq_true rfl⟩ dL_notes_211 (Nat.le_of_ble_eq_true rfl) rfl rfl (fun v211 H11 hp211 hs211 => ?_)
                                        obtain ⟨hv, hA1, hF1⟩ := hp211
                                        rw [ct_1] at hv
                                        subst hv
                                        replace hF := hF.trans hF1
                                        replace hA := hA1
                                        replace hO := hA.1
                                        clear hA1 hF1 hs211
                                        refine g_icmp_ge (pc := 214) X 221 dL_notes_214 (by decide) (by omega) (by omega) (fun c214 => ?_) (fun c214 => ?_)
                                        · skip
                                          omega
                                        · skip
                                          refine g_iconst (pc := 217) X dL_notes_217 ?_
                                          refine g_goto (pc := 218) X 222 dL_notes_218 (by decide) ?_
                                          refine g_istore (pc := 222) (lv' := [(5, _), (3, _), (2, _), (1, _), (9, _), (8, _), (7, _), (0, _), (4, _), (6, _)]) X dL_notes_222 (by decide) rfl ?_
                                          refine g_iload (pc := 224) (pl := 6) X dL_notes_224 rfl ?_
                                          refine g_if_ne (pc := 226) X 411 dL_notes_226 (by decide) (by omega) (fun c226 => ?_) (fun c226 => ?_)
                                          · skip
                                            omega
                                          · skip
                                            refine g_iload (pc := 229) (pl := 0) X dL_notes_229 rfl ?_
                                            refine g_if_eq (pc := 231) X 321 dL_notes_231 (by decide) (by omega) (fun c231 => ?_) (fun c231 => ?_)
                                            · skip
                                              exact absurd c231 (by decide)
                                            · skip
                                              refine g_iload (pc := 234) (pl := 5) X dL_notes_234 rfl ?_
                                              refine g_if_lt (pc := 236) X 321 dL_notes_236 (by decide) (by omega) (fun c236 => ?_) (fun c236 => ?_)
                                              · skip
                                                omega
                                              · skip
                                                refine g_iload (pc := 239) (pl := 4) X dL_notes_239 rfl ?_
                                                refine g_iload (pc := 241) (pl := 5) X dL_notes_241 rfl ?_
                                                refine g_icmp_lt (pc := 243) X 321 dL_notes_243 (by decide) (by omega) (by omega) (fun c243 => ?_) (fun c243 => ?_)
                                                · skip
                                                  omega
                                                · skip
                                                  refine g_iload (pc := 246) (pl := 4) X dL_notes_246 rfl ?_
                                                  refine g_aload_n (pc := 248) (pl := 7) X dL_notes_248 rfl ?_
                                                  refine g_iconst (pc := 249) X dL_notes_249 ?_
                                                  refine gVi (pc := 250) (n2 := 0) (k2 := 0) X cs_L_notes_9 (c_X8_count (zl K) D base x lo m sa sl st ss g n f 0 hq hlo hI (by omega)) rfl hO (by omega) hA rfl ⟨Nat.le_of_ble_eq_true rfl, Nat.le_of_ble_eq_true rfl⟩ dL_notes_250 (Nat.le_of_ble_eq_true rfl) rfl rfl (fun v250 H12 hp250 hs250 => ?_)
                                                  obtain ⟨hv, hA1, hF1⟩ := hp250
                                                  rw [ct_0] at hv
                                                  subst hv
                                                  replace hF := hF.trans hF1
                                                  replace hA := hA1
                                                  replace hO := hA.1
                                                  clear hA1 hF1 hs250
                                                  refine g_icmp_ge (pc := 253) X 321 dL_notes_253 (by decide) (by omega) (by omega) (fun c253 => ?_) (fun c253 => ?_)
                                                  · skip
                                                    omega
                                                  · skip
                                                    refine g_aload_n (pc := 256) (pl := 7) X dL_notes_256 rfl ?_
                                                    refine g_iload (pc := 257) (pl := 9) X dL_notes_257 rfl ?_
                                                    refine g_iconst (pc := 259) X dL_notes_259 ?_
                                                    refine gVi (pc := 260) (n2 := 0) (k2 := 0) X cs_L_notes_15 (c_X8_of (zl K) D base x lo m sa sl st ss g n f i 4 hq hlo hI (by omega) (by omega)) rfl hO (by omega) hA rfl ⟨Nat.le_of_ble_eq_true rfl, Nat.le_of_ble_eq_true rfl⟩ dL_notes_260 (Nat.le_of_ble_eq_true rfl) rfl rfl (fun v260 H13 hp260 hs260 => ?_)
                                                    obtain ⟨hv, hA1, hF1⟩ := hp260
                                                    subst hv
                                                    replace hF := hF.trans hF1
                                                    replace hA := hA1
                                                    replace hO := hA.1
                                                    clear hA1 hF1 hs260
                                                    refine g_aload_n (pc := 263) (pl := 7) X dL_notes_263 rfl ?_
                                                    refine g_iload (pc := 264) (pl := 9) X dL_notes_264 rfl ?_
                                                    refine g_iconst (pc := 266) X dL_notes_266 ?_
                                                    refine gVi (pc := 267) (n2 := 0) (k2 := 0) X cs_L_notes_15 (c_X8_of (zl K) D base x lo m sa sl st ss g n f i 3 hq hlo hI (by omega) (by omega)) rfl hO (by omega) hA rfl ⟨Nat.le_of_ble_eq_true rfl, Nat.le_of_ble_eq_true rfl⟩ dL_notes_267 (Nat.le_of_ble_eq_true rfl) rfl rfl (fun v267 H14 hp267 hs267 => ?_)
                                                    obtain ⟨hv, hA1, hF1⟩ := hp267
                                                    subst hv
                                                    replace hF := hF.trans hF1
                                                    replace hA := hA1
                                                    replace hO := hA.1
                                                    clear hA1 hF1 hs267
                                                    refine g_icmp_gt (pc := 270) X 321 dL_notes_270 (by decide) (by omega) (by omega) (fun c270 => ?_) (fun c270 => ?_)
                                                    · skip
                                                      omega
                                                    · skip
                                                      refine g_aload_n (pc := 273) (pl := 7) X dL_notes_273 rfl ?_
                                                      refine g_iload (pc := 274) (pl := 9) X dL_notes_274 rfl ?_
                                                      refine g_iconst (pc := 276) X dL_notes_276 ?_
                                                      refine gVi (pc := 277) (n2 := 0) (k2 := 0) X cs_L_notes_15 (c_X8_of (zl K) D base x lo m sa sl st ss g n f i 5 hq hlo hI (by omega) (by omega)) rfl hO (by omega) hA rfl ⟨Nat.le_of_ble_eq_true rfl, Nat.le_of_ble_eq_true rfl⟩ dL_notes_277 (Nat.le_of_ble_eq_true rfl) rfl rfl (fun v277 H15 hp277 hs277 => ?_)
                                                      obtain ⟨hv, hA1, hF1⟩ := hp277
                                                      subst hv
                                                      replace hF := hF.trans hF1
                                                      replace hA := hA1
                                                      replace hO := hA.1
                                                      clear hA1 hF1 hs277
                                                      refine g_aload_n (pc := 280) (pl := 7) X dL_notes_280 rfl ?_
                                                      refine g_iload (pc := 281) (pl := 9) X dL_notes_281 rfl ?_
                                                      refine g_iconst (pc := 283) X dL_notes_283 ?_
                                                      refine gVi (pc := 284) (n2 := 0) (k2 := 0) X cs_L_notes_15 (c_X8_of (zl K) D base x lo m sa sl st ss g n f i 4 hq hlo hI (by omega) (by omega)) rfl hO (by omega) hA rfl ⟨Nat.le_of_ble_eq_true rfl, Nat.le_of_ble_eq_true rfl⟩ dL_notes_284 (Nat.le_of_ble_eq_true rfl) rfl rfl (fun v284 H16 hp284 hs284 => ?_)
                                                      obtain ⟨hv, hA1, hF1⟩ := hp284
                                                      subst hv
                                                      replace hF := hF.trans hF1
                                                      replace hA := hA1
                                                      replace hO := hA.1
                                                      clear hA1 hF1 hs284
                                                      refine g_icmp_gt (pc := 287) X 321 dL_notes_287 (by decide) (by omega) (by omega) (fun c287 => ?_) (fun c287 => ?_)
                                                      · skip
                                                        omega
                                                      · skip
                                                        refine g_iload (pc := 290) (pl := 4) X dL_notes_290 rfl ?_
                                                        refine g_iload (pc := 292) (pl := 5) X dL_notes_292 rfl ?_
                                                        refine g_isub (pc := 294) X dL_notes_294 ?_
                                                        refine g_aload_n (pc := 295) (pl := 7) X dL_notes_295 rfl ?_
                                                        refine g_iload (pc := 296) (pl := 9) X dL_notes_296 rfl ?_
                                                        refine g_iconst (pc := 298) X dL_notes_298 ?_
                                                        refine gVi (pc := 299) (n2 := 0) (k2 := 0) X cs_L_notes_15 (c_X8_of (zl K) D base x lo m sa sl st ss g n f i 4 hq hlo hI (by omega) (by omega)) rfl hO (by omega) hA rfl ⟨Nat.le_of_ble_eq_true rfl, Nat.le_of_ble_eq_true rfl⟩ dL_notes_299 (Nat.le_of_ble_eq_true rfl) rfl rfl (fun v299 H17 hp299 hs299 => ?_)
                                                        obtain ⟨hv, hA1, hF1⟩ := hp299
                                                        subst hv
                                                        replace hF := hF.trans hF1
                                                        replace hA := hA1
                                                        replace hO := hA.1
                                                        clear hA1 hF1 hs299
                                                        refine g_icmp_ge (pc := 302) X 321 dL_notes_302 (by decide) (by omega) (by omega) (fun c302 => ?_) (fun c302 => ?_)
                                                        · skip
                                                          omega
                                                        · skip
                                                          refine g_aload_n (pc := 305) (pl := 7) X dL_notes_305 rfl ?_
                                                          refine g_iload (pc := 306) (pl := 9) X dL_notes_306 rfl ?_
                                                          refine g_iconst (pc := 308) X dL_notes_308 ?_
                                                          refine gVi (pc := 309) (n2 := 0) (k2 := 0) X cs_L_notes_19 (c_X8_could (zl K) D base x lo m sa sl st ss g n f i 0 hq hlo hI (by omega) (by omega)) rfl hO (by omega) hA rfl ⟨Nat.le_of_ble_eq_true rfl, Nat.le_of_ble_eq_true rfl⟩ dL_notes_309 (Nat.le_of_ble_eq_true rfl) rfl rfl (fun v309 H18 hp309 hs309 => ?_)
                                                          obtain ⟨hv, hA1, hF1⟩ := hp309
                                                          subst hv
                                                          replace hF := hF.trans hF1
                                                          replace hA := hA1
                                                          replace hO := hA.1
                                                          clear hA1 hF1 hs309
                                                          refine g_bipush (pc := 312) X dL_notes_312 (by decide +kernel) ?_
                                                          refine g_icmp_ne (pc := 314) X 321 dL_notes_314 (by decide) (by omega) (by omega) (fun c314 => ?_) (fun c314 => ?_)
                                                          · skip
                                                            omega
                                                          · skip
                                                            refine g_iconst (pc := 317) X dL_notes_317 ?_
                                                            refine g_goto (pc := 318) X 322 dL_notes_318 (by decide) ?_
                                                            refine g_istore (pc := 322) (lv' := [(5, _), (3, _), (2, _), (1, _), (9, _), (8, _), (7, _), (0, _), (4, _), (6, _)]) X dL_notes_322 (by decide) rfl ?_
                                                            refine g_iload (pc := 324) (pl := 5) X dL_notes_324 rfl ?_
                                                            refine g_istore (pc := 326) (lv' := [(10, _), (5, _), (3, _), (2, _), (1, _), (9, _), (8, _), (7, _), (0, _), (4, _), (6, _)]) X dL_notes_326 (by decide) rfl ?_
                                                            have hL328 : ∀ (fu : Nat) (p : Int) (Hy : Heap), (ofR g i 2 + 1 - p).toNat < fu → (ofR g i 1 ≤ p ∧ p ≤ ofR g i 2 + 1) → (AnAt D x lo m sa sl st ss g n f Hy) → (Fz x lo H Hy) → G K 0 0 Hy 328 [(0, .ref x), (1, .int (J (o + 0))), (2, .int (J (r + 0))), (3, .int (J (t + 1))), (4, .int (J 0)), (5, .int (J 1)), (6, .int (J i)), (7, .int (J (ofR g i 0))), (8, .int (J (ofR g i 1))), (9, .int (J (ofR g i 2))), (10, .int (J p))] [] := by
                                                              intro fu
                                                              induction fu with
                                                              | zero => intro p Hy hm; exact absurd hm (Nat.not_lt_zero _)
                                                              | succ fu ih328 =>
                                                                intro p Hy hm h2 hA hF
                                                                have hO := hA.1
                                                                refine g_iload (pc := 328) (pl := 10) X dL_notes_328 rfl ?_
                                                                refine g_iload (pc := 330) (pl := 9) X dL_notes_330 rfl ?_
                                                                refine g_icmp_gt (pc := 332) X 368 dL_notes_332 (by decide) (by omega) (by omega) (fun c332 => ?_) (fun c332 => ?_)
                                                                · skip
                                                                  refine g_iload (pc := 368) (pl := 5) X dL_notes_368 rfl ?_
                                                                  refine g_if_eq (pc := 370) X 405 dL_notes_370 (by decide) (by omega) (fun c370 => ?_) (fun c370 => ?_)
                                                                  · skip
                                                                    exact absurd c370 (by decide)
                                                                  · skip
                                                                    refine g_aload_n (pc := 373) (pl := 0) X dL_notes_373 rfl ?_
                                                                    refine g_iload (pc := 374) (pl := 6) X dL_notes_374 rfl ?_
                                                                    refine g_iconst (pc := 376) X dL_notes_376 ?_
                                                                    refine gVi (pc := 377) (n2 := 0) (k2 := 0) X cs_L_notes_15 (c_X8_of (zl K) D base x lo m sa sl st ss g n f i 5 hq hlo hI (by omega) (by omega)) rfl hO (by omega) hA rfl ⟨Nat.le_of_ble_eq_true rfl, Nat.le_of_ble_eq_true rfl⟩ dL_notes_377 (Nat.le_of_ble_eq_true rfl) rfl rfl (fun v377 H19 hp377 hs377 => ?_)
                                                                    obtain ⟨hv, hA1, hF1⟩ := hp377
                                                                    subst hv
                                                                    replace hF := hF.trans hF1
                                                                    replace hA := hA1
                                                                    replace hO := hA.1
                                                                    clear hA1 hF1 hs377
                                                                    refine g_iconst (pc := 380) X dL_notes_380 ?_
                                                                    refine g_icmp_gt (pc := 381) X 401 dL_notes_381 (by decide) (by omega) (by omega) (fun c381 => ?_) (fun c381 => ?_)
                                                                    · skip
                                                                      refine g_iconst (pc := 401) X dL_notes_401 ?_
                                                                      refine g_goto (pc := 402) X 406 dL_notes_402 (by decide) ?_
                                                                      refine g_istore (pc := 406) (lv' := [(5, _), (0, _), (1, _), (2, _), (3, _), (4, _), (6, _), (7, _), (8, _), (9, _), (10, _)]) X dL_notes_406 (by decide) rfl ?_
                                                                      refine g_goto (pc := 408) X 561 dL_notes_408 (by decide) ?_
                                                                      refine g_iload (pc := 561) (pl := 0) X dL_notes_561 rfl ?_
                                                                      refine g_if_eq (pc := 563) X 621 dL_notes_563 (by decide) (by omega) (fun c563 => ?_) (fun c563 => ?_)
                                                                      · skip
                                                                        exact absurd c563 (by decide)
                                                                      · skip
                                                                        refine g_iload (pc := 566) (pl := 7) X dL_notes_566 rfl ?_
                                                                        refine g_iconst (pc := 568) X dL_notes_568 ?_
                                                                        refine g_icmp_eq (pc := 569) X 617 dL_notes_569 (by decide) (by omega) (by omega) (fun c569 => ?_) (fun c569 => ?_)
                                                                        · skip
                                                                          omega
                                                                        · skip
                                                                          refine g_aload_n (pc := 572) (pl := 1) X dL_notes_572 rfl ?_
                                                                          refine g_iload (pc := 573) (pl := 6) X dL_notes_573 rfl ?_
                                                                          refine g_iconst (pc := 575) X dL_notes_575 ?_
                                                                          refine gVi (pc := 576) (n2 := 0) (k2 := 0) X cs_L_notes_28 (c_X8_word (zl K) D base x lo m sa sl st ss g n f i 0 hq hlo hI (by omega) (by omega)) rfl hO (by omega) hA rfl ⟨Nat.le_of_ble_eq_true rfl, Nat.le_of_ble_eq_true rfl⟩ dL_notes_576 (Nat.le_of_ble_eq_true rfl) rfl rfl (fun v576 H20 hp576 hs576 => ?_)
                                                                          obtain ⟨hv, hA1, hF1⟩ := hp576
                                                                          subst hv
                                                                          replace hF := hF.trans hF1
                                                                          replace hA := hA1
                                                                          replace hO := hA.1
                                                                          clear hA1 hF1 hs576
                                                                          refine g_if_lt (pc := 579) X 621 dL_notes_579 (by decide) (by omega) (fun c579 => ?_) (fun c579 => ?_)
                                                                          · skip
                                                                            omega
                                                                          · skip
                                                                            refine g_aload_n (pc := 582) (pl := 1) X dL_notes_582 rfl ?_
                                                                            refine g_iload (pc := 583) (pl := 6) X dL_notes_583 rfl ?_
                                                                            refine g_aload_n (pc := 585) (pl := 1) X dL_notes_585 rfl ?_
                                                                            refine g_iload (pc := 586) (pl := 6) X dL_notes_586 rfl ?_
                                                                            refine g_iconst (pc := 588) X dL_notes_588 ?_
                                                                            refine gVi (pc := 589) (n2 := 0) (k2 := 0) X cs_L_notes_15 (c_X8_of (zl K) D base x lo m sa sl st ss g n f i 3 hq hlo hI (by omega) (by omega)) rfl hO (by omega) hA rfl ⟨Nat.le_of_ble_eq_true rfl, Nat.le_of_ble_eq_true rfl⟩ dL_notes_589 (Nat.le_of_ble_eq_true rfl) rfl rfl (fun v589 H21 hp589 hs589 => ?_)
                                                                            obtain ⟨hv, hA1, hF1⟩ := hp589
                                                                            subst hv
                                                                            replace hF := hF.trans hF1
                                                                            replace hA := hA1
                                                                            replace hO := hA.1
                                                                            clear hA1 hF1 hs589
                                                                            refine g_iconst (pc := 592) X dL_notes_592 ?_
                                                                            refine g_isub (pc := 593) X dL_notes_593 ?_
                                                                            refine gVi (pc := 594) (n2 := 0) (k2 := 0) X cs_L_notes_28 (c_X8_word (zl K) D base x lo m sa sl st ss g n f i ((ofR g i 3) - 1) hq hlo hI (by omega) (by omega)) rfl hO (by omega) hA rfl ⟨Nat.le_of_ble_eq_true rfl, Nat.le_of_ble_eq_true rfl⟩ dL_notes_594 (Nat.le_of_ble_eq_true rfl) rfl rfl (fun v594 H22 hp594 hs594 => ?_)
                                                                            obtain ⟨hv, hA1, hF1⟩ := hp594
                                                                            subst hv
                                                                            replace hF := hF.trans hF1
                                                                            replace hA := hA1
                                                                            replace hO := hA.1
                                                                            clear hA1 hF1 hs594
                                                                            refine g_if_lt (pc := 597) X 621 dL_notes_597 (by decide) (by omega) (fun c597 => ?_) (fun c597 => ?_)
                                                                            · skip
                                                                              omega
                                                                            · skip
                                                                              refine g_aload_n (pc := 600) (pl := 1) X dL_notes_600 rfl ?_
                                                                              refine g_iload (pc := 601) (pl := 6) X dL_notes_601 rfl ?_
                                                                              refine g_aload_n (pc := 603) (pl := 1) X dL_notes_603 rfl ?_
                                                                              refine g_iload (pc := 604) (pl := 6) X dL_notes_604 rfl ?_
                                                                              refine g_iconst (pc := 606) X dL_notes_606 ?_
                                                                              refine gVi (pc := 607) (n2 := 0) (k2 := 0) X cs_L_notes_15 (c_X8_of (zl K) D base x lo m sa sl st ss g n f i 3 hq hlo hI (by omega) (by omega)) rfl hO (by omega) hA rfl ⟨Nat.le_of_ble_eq_true rfl, Nat.le_of_ble_eq_true rfl⟩ dL_notes_607 (Nat.le_of_ble_eq_true rfl) rfl rfl (fun v607 H23 hp607 hs607 => ?_)
                                                                              obtain ⟨hv, hA1, hF1⟩ := hp607
                                                                              subst hv
                                                                              replace hF := hF.trans hF1
                                                                              replace hA := hA1
                                                                              replace hO := hA.1
                                                                              clear hA1 hF1 hs607
                                                                              refine gVi (pc := 610) (n2 := 0) (k2 := 0) X cs_L_notes_28 (c_X8_word (zl K) D base x lo m sa sl st ss g n f i (ofR g i 3) hq hlo hI (by omega) (by omega)) rfl hO (by omega) hA rfl ⟨Nat.le_of_ble_eq_true rfl, Nat.le_of_ble_eq_true rfl⟩ dL_notes_610 (Nat.le_of_ble_eq_true rfl) rfl rfl (fun v610 H24 hp610 hs610 => ?_)
                                                                              obtain ⟨hv, hA1, hF1⟩ := hp610
                                                                              subst hv
                                                                              replace hF := hF.trans hF1
                                                                              replace hA := hA1
                                                                              replace hO := hA.1
                                                                              clear hA1 hF1 hs610
                                                                              refine g_iconst (pc := 613) X dL_notes_613 ?_
                                                                              refine g_icmp_ne (pc := 614) X 621 dL_notes_614 (by decide) (by omega) (by omega) (fun c614 => ?_) (fun c614 => ?_)
                                                                              · skip
                                                                                omega
                                                                              · skip
                                                                                refine g_iconst (pc := 617) X dL_notes_617 ?_
                                                                                refine g_goto (pc := 618) X 622 dL_notes_618 (by decide) ?_
                                                                                refine g_istore (pc := 622) (lv' := [(5, _), (0, _), (1, _), (2, _), (3, _), (4, _), (6, _), (7, _), (8, _), (9, _), (10, _)]) X dL_notes_622 (by decide) rfl ?_
                                                                                refine g_iinc (pc := 624) (pl := 6) (x := i) (lv' := [(6, _), (5, _), (0, _), (1, _), (2, _), (3, _), (4, _), (7, _), (8, _), (9, _), (10, _)]) X dL_notes_624 rfl (by decide) rfl ?_
                                                                                refine g_goto (pc := 627) X 39 dL_notes_627 (by decide) ?_
                                                                                refine G.pick [2, 3, 4, 5, 6, 1, 0] (lv' := [(0, _), (1, _), (2, _), (3, _), (4, _), (5, _), (6, _)]) rfl ?_
                                                                                exact ih39 (i + 1) (o + 0) (r + 0) (t + 1) H24 (by omega) (by omega) (cn_no (P := fun n => decide (stt g n = 1)) ho (by omega) (by exact fun z => absurd (of_decide_eq_true z) (by omega))) (cn_no (P := fun n => decide (stt g n = 2)) hr (by omega) (by exact fun z => absurd (of_decide_eq_true z) (by omega))) (cn_yes (P := fun n => decide (1 < ntP g n)) ht (by omega) (by exact decide_eq_true (by omega))) hA hF
                                                                    · skip
                                                                      omega
                                                                · skip
                                                                  refine g_iload (pc := 335) (pl := 5) X dL_notes_335 rfl ?_
                                                                  refine g_if_eq (pc := 337) X 368 dL_notes_337 (by decide) (by omega) (fun c337 => ?_) (fun c337 => ?_)
                                                                  · skip
                                                                    exact absurd c337 (by decide)
                                                                  · skip
                                                                    refine g_aload_n (pc := 340) (pl := 0) X dL_notes_340 rfl ?_
                                                                    refine g_iload (pc := 341) (pl := 10) X dL_notes_341 rfl ?_
                                                                    refine gVi (pc := 343) (n2 := 0) (k2 := 0) X cs_L_notes_22 (c_X8_at (zl K) D base x lo m sa sl st ss g n f p hq hlo hI (by omega)) rfl hO (by omega) hA rfl ⟨Nat.le_of_ble_eq_true rfl, Nat.le_of_ble_eq_true rfl⟩ dL_notes_343 (Nat.le_of_ble_eq_true rfl) rfl rfl (fun v343 H19 hp343 hs343 => ?_)
                                                                    obtain ⟨hv, hA1, hF1⟩ := hp343
                                                                    rw [show itm (g 0) (OW g) p = OW g p from if_pos (by omega)] at hv
                                                                    subst hv
                                                                    replace hF := hF.trans hF1
                                                                    replace hA := hA1
                                                                    replace hO := hA.1
                                                                    clear hA1 hF1 hs343
                                                                    refine g_iload (pc := 346) (pl := 6) X dL_notes_346 rfl ?_
                                                                    have hop := hI.own p (by omega) (by omega)
                                                                    refine g_ishr (pc := 348) (z := J (((OW g p).toNat / 2 ^ i.toNat : Nat) : Int)) X dL_notes_348 (J_shr (by omega) (by omega)) ?_
                                                                    refine g_iconst (pc := 349) X dL_notes_349 ?_
                                                                    refine g_iand (pc := 350) (z := J 1) X dL_notes_350 ((J_and (by first | exact Int.natCast_nonneg _ | exact Int.ofNat_nonneg _) (by omega)).trans (by rw [btt_div, if_pos (sd_own hI hin c0 (by omega) (by omega))])) ?_
                                                                    refine g_iconst (pc := 351) X dL_notes_351 ?_
                                                                    refine g_icmp_ne (pc := 352) X 359 dL_notes_352 (by decide) (by omega) (by omega) (fun c352 => ?_) (fun c352 => ?_)
                                                                    · skip
                                                                      omega
                                                                    · skip
                                                                      refine g_iconst (pc := 355) X dL_notes_355 ?_
                                                                      refine g_goto (pc := 356) X 360 dL_notes_356 (by decide) ?_
                                                                      refine g_istore (pc := 360) (lv' := [(5, _), (0, _), (1, _), (2, _), (3, _), (4, _), (6, _), (7, _), (8, _), (9, _), (10, _)]) X dL_notes_360 (by decide) rfl ?_
                                                                      refine g_iinc (pc := 362) (pl := 10) (x := p) (lv' := [(10, _), (5, _), (0, _), (1, _), (2, _), (3, _), (4, _), (6, _), (7, _), (8, _), (9, _)]) X dL_notes_362 rfl (by decide) rfl ?_
                                                                      refine g_goto (pc := 365) X 328 dL_notes_365 (by decide) ?_
                                                                      refine G.pick [2, 3, 4, 5, 6, 1, 7, 8, 9, 10, 0] (lv' := [(0, _), (1, _), (2, _), (3, _), (4, _), (5, _), (6, _), (7, _), (8, _), (9, _), (10, _)]) rfl ?_
                                                                      exact ih328 (p + 1) H19 (by omega) (by omega) hA hF
                                                            refine G.pick [8, 4, 3, 2, 9, 1, 10, 7, 6, 5, 0] (lv' := [(0, _), (1, _), (2, _), (3, _), (4, _), (5, _), (6, _), (7, _), (8, _), (9, _), (10, _)]) rfl ?_
                                                            exact hL328 _ (ofR g i 1) H18 (Nat.lt_succ_self _) (by omega) hA hF
                                  · skip
                                    omega
                                · skip
                                  omega
                            · skip
                              omega
                          · skip
                            omega
                    · skip
                      omega
                  · skip
                    omega
                · skip
                  have s14 : ofR g i 4 = ofR g i 2 - ofR g i 1 + 1 := by omega
                  clear s11
                  refine g_iload_n (pc := 81) (pl := 4) X dL_notes_81 rfl ?_
                  refine g_iload (pc := 82) (pl := 2) X dL_notes_82 rfl ?_
                  refine g_iconst (pc := 84) X dL_notes_84 ?_
                  refine g_icmp_ne (pc := 85) X 92 dL_notes_85 (by decide) (by omega) (by omega) (fun c85 => ?_) (fun c85 => ?_)
                  · skip
                    refine g_iconst (pc := 92) X dL_notes_92 ?_
                    refine g_iadd (pc := 93) X dL_notes_93 ?_
                    refine g_istore_n (pc := 94) (lv' := [(1, _), (9, _), (8, _), (7, _), (0, _), (2, _), (3, _), (4, _), (5, _), (6, _)]) X dL_notes_94 (by decide) rfl ?_
                    refine g_iload_n (pc := 95) (pl := 5) X dL_notes_95 rfl ?_
                    refine g_iload (pc := 96) (pl := 3) X dL_notes_96 rfl ?_
                    refine g_iconst (pc := 98) X dL_notes_98 ?_
                    refine g_icmp_ne (pc := 99) X 106 dL_notes_99 (by decide) (by omega) (by omega) (fun c99 => ?_) (fun c99 => ?_)
                    · skip
                      refine g_iconst (pc := 106) X dL_notes_106 ?_
                      refine g_iadd (pc := 107) X dL_notes_107 ?_
                      refine g_istore_n (pc := 108) (lv' := [(2, _), (1, _), (9, _), (8, _), (7, _), (0, _), (3, _), (4, _), (5, _), (6, _)]) X dL_notes_108 (by decide) rfl ?_
                      refine g_iload_n (pc := 109) (pl := 6) X dL_notes_109 rfl ?_
                      refine g_iload (pc := 110) (pl := 4) X dL_notes_110 rfl ?_
                      refine g_if_ne (pc := 112) X 130 dL_notes_112 (by decide) (by omega) (fun c112 => ?_) (fun c112 => ?_)
                      · skip
                        omega
                      · skip
                        refine g_aload_n (pc := 115) (pl := 5) X dL_notes_115 rfl ?_
                        refine g_iload (pc := 116) (pl := 9) X dL_notes_116 rfl ?_
                        refine g_iconst (pc := 118) X dL_notes_118 ?_
                        refine gVi (pc := 119) (n2 := 0) (k2 := 0) X cs_L_notes_15 (c_X8_of (zl K) D base x lo m sa sl st ss g n f i 5 hq hlo hI (by omega) (by omega)) rfl hO (by omega) hA rfl ⟨Nat.le_of_ble_eq_true rfl, Nat.le_of_ble_eq_true rfl⟩ dL_notes_119 (Nat.le_of_ble_eq_true rfl) rfl rfl (fun v119 H7 hp119 hs119 => ?_)
                        obtain ⟨hv, hA1, hF1⟩ := hp119
                        subst hv
                        replace hF := hF.trans hF1
                        replace hA := hA1
                        replace hO := hA.1
                        clear hA1 hF1 hs119
                        refine g_iconst (pc := 122) X dL_notes_122 ?_
                        refine g_icmp_le (pc := 123) X 130 dL_notes_123 (by decide) (by omega) (by omega) (fun c123 => ?_) (fun c123 => ?_)
                        · skip
                          refine g_iconst (pc := 130) X dL_notes_130 ?_
                          refine g_iadd (pc := 131) X dL_notes_131 ?_
                          refine g_istore_n (pc := 132) (lv' := [(3, _), (2, _), (1, _), (9, _), (8, _), (7, _), (0, _), (4, _), (5, _), (6, _)]) X dL_notes_132 (by decide) rfl ?_
                          refine g_iload (pc := 133) (pl := 5) X dL_notes_133 rfl ?_
                          refine g_iconst (pc := 135) X dL_notes_135 ?_
                          refine g_icmp_ne (pc := 136) X 143 dL_notes_136 (by decide) (by omega) (by omega) (fun c136 => ?_) (fun c136 => ?_)
                          · skip
                            refine g_iconst (pc := 143) X dL_notes_143 ?_
                            refine g_aload_n (pc := 144) (pl := 6) X dL_notes_144 rfl ?_
                            refine g_iload (pc := 145) (pl := 9) X dL_notes_145 rfl ?_
                            refine g_bipush (pc := 147) X dL_notes_147 (by decide +kernel) ?_
                            refine gVi (pc := 149) (n2 := 0) (k2 := 0) X cs_L_notes_15 (c_X8_of (zl K) D base x lo m sa sl st ss g n f i 6 hq hlo hI (by omega) (by omega)) rfl hO (by omega) hA rfl ⟨Nat.le_of_ble_eq_true rfl, Nat.le_of_ble_eq_true rfl⟩ dL_notes_149 (Nat.le_of_ble_eq_true rfl) rfl rfl (fun v149 H8 hp149 hs149 => ?_)
                            obtain ⟨hv, hA1, hF1⟩ := hp149
                            subst hv
                            replace hF := hF.trans hF1
                            replace hA := hA1
                            replace hO := hA.1
                            clear hA1 hF1 hs149
                            refine g_if_lt (pc := 152) X 159 dL_notes_152 (by decide) (by omega) (fun c152 => ?_) (fun c152 => ?_)
                            · skip
                              refine g_iconst (pc := 159) X dL_notes_159 ?_
                              refine g_icmp_ne (pc := 160) X 221 dL_notes_160 (by decide) (by omega) (by omega) (fun c160 => ?_) (fun c160 => ?_)
                              · skip
                                omega
                              · skip
                                refine g_iload (pc := 163) (pl := 4) X dL_notes_163 rfl ?_
                                refine g_bipush (pc := 165) X dL_notes_165 (by decide +kernel) ?_
                                refine g_icmp_ne (pc := 167) X 174 dL_notes_167 (by decide) (by omega) (by omega) (fun c167 => ?_) (fun c167 => ?_)
                                · skip
                                  refine g_iconst (pc := 174) X dL_notes_174 ?_
                                  refine g_iload (pc := 175) (pl := 3) X dL_notes_175 rfl ?_
                                  refine g_bipush (pc := 177) X dL_notes_177 (by decide +kernel) ?_
                                  refine g_icmp_ne (pc := 179) X 186 dL_notes_179 (by decide) (by omega) (by omega) (fun c179 => ?_) (fun c179 => ?_)
                                  · skip
                                    refine g_iconst (pc := 186) X dL_notes_186 ?_
                                    refine g_icmp_ne (pc := 187) X 221 dL_notes_187 (by decide) (by omega) (by omega) (fun c187 => ?_) (fun c187 => ?_)
                                    · skip
                                      omega
                                    · skip
                                      refine g_aload_n (pc := 190) (pl := 6) X dL_notes_190 rfl ?_
                                      refine g_iload (pc := 191) (pl := 9) X dL_notes_191 rfl ?_
                                      refine g_bipush (pc := 193) X dL_notes_193 (by decide +kernel) ?_
                                      refine gVi (pc := 195) (n2 := 0) (k2 := 0) X cs_L_notes_15 (c_X8_of (zl K) D base x lo m sa sl st ss g n f i 7 hq hlo hI (by omega) (by omega)) rfl hO (by omega) hA rfl ⟨Nat.le_of_ble_eq_true rfl, Nat.le_of_ble_eq_true rfl⟩ dL_notes_195 (Nat.le_of_ble_eq_true rfl) rfl rfl (fun v195 H9 hp195 hs195 => ?_)
                                      obtain ⟨hv, hA1, hF1⟩ := hp195
                                      subst hv
                                      replace hF := hF.trans hF1
                                      replace hA := hA1
                                      replace hO := hA.1
                                      clear hA1 hF1 hs195
                                      refine g_if_lt (pc := 198) X 221 dL_notes_198 (by decide) (by omega) (fun c198 => ?_) (fun c198 => ?_)
                                      · skip
                                        omega
                                      · skip
                                        refine g_aload_n (pc := 201) (pl := 6) X dL_notes_201 rfl ?_
                                        refine g_iload (pc := 202) (pl := 9) X dL_notes_202 rfl ?_
                                        refine g_bipush (pc := 204) X dL_notes_204 (by decide +kernel) ?_
                                        refine gVi (pc := 206) (n2 := 0) (k2 := 0) X cs_L_notes_15 (c_X8_of (zl K) D base x lo m sa sl st ss g n f i 7 hq hlo hI (by omega) (by omega)) rfl hO (by omega) hA rfl ⟨Nat.le_of_ble_eq_true rfl, Nat.le_of_ble_eq_true rfl⟩ dL_notes_206 (Nat.le_of_ble_eq_true rfl) rfl rfl (fun v206 H10 hp206 hs206 => ?_)
                                        obtain ⟨hv, hA1, hF1⟩ := hp206
                                        subst hv
                                        replace hF := hF.trans hF1
                                        replace hA := hA1
                                        replace hO := hA.1
                                        clear hA1 hF1 hs206
                                        refine g_aload_n (pc := 209) (pl := 6) X dL_notes_209 rfl ?_
                                        refine g_iconst (pc := 210) X dL_notes_210 ?_
                                        refine gVi (pc := 211) (n2 := 0) (k2 := 0) X cs_L_notes_9 (c_X8_count (zl K) D base x lo m sa sl st ss g n f 1 hq hlo hI (by omega)) rfl hO (by omega) hA rfl ⟨Nat.le_of_ble_eq_true rfl, Nat.le_of_ble_eq_true rfl⟩ dL_notes_211 (Nat.le_of_ble_eq_true rfl) rfl rfl (fun v211 H11 hp211 hs211 => ?_)
                                        obtain ⟨hv, hA1, hF1⟩ := hp211
                                        rw [ct_1] at hv
                                        subst hv
                                        replace hF := hF.trans hF1
                                        replace hA := hA1
                                        replace hO := hA.1
                                        clear hA1 hF1 hs211
                                        refine g_icmp_ge (pc := 214) X 221 dL_notes_214 (by decide) (by omega) (by omega) (fun c214 => ?_) (fun c214 => ?_)
                                        · skip
                                          omega
                                        · skip
                                          refine g_iconst (pc := 217) X dL_notes_217 ?_
                                          refine g_goto (pc := 218) X 222 dL_notes_218 (by decide) ?_
                                          refine g_istore (pc := 222) (lv' := [(5, _), (3, _), (2, _), (1, _), (9, _), (8, _), (7, _), (0, _), (4, _), (6, _)]) X dL_notes_222 (by decide) rfl ?_
                                          refine g_iload (pc := 224) (pl := 6) X dL_notes_224 rfl ?_
                                          refine g_if_ne (pc := 226) X 411 dL_notes_226 (by decide) (by omega) (fun c226 => ?_) (fun c226 => ?_)
                                          · skip
                                            omega
                                          · skip
                                            refine g_iload (pc := 229) (pl := 0) X dL_notes_229 rfl ?_
                                            refine g_if_eq (pc := 231) X 321 dL_notes_231 (by decide) (by omega) (fun c231 => ?_) (fun c231 => ?_)
                                            · skip
                                              exact absurd c231 (by decide)
                                            · skip
                                              refine g_iload (pc := 234) (pl := 5) X dL_notes_234 rfl ?_
                                              refine g_if_lt (pc := 236) X 321 dL_notes_236 (by decide) (by omega) (fun c236 => ?_) (fun c236 => ?_)
                                              · skip
                                                omega
                                              · skip
                                                refine g_iload (pc := 239) (pl := 4) X dL_notes_239 rfl ?_
                                                refine g_iload (pc := 241) (pl := 5) X dL_notes_241 rfl ?_
                                                refine g_icmp_lt (pc := 243) X 321 dL_notes_243 (by decide) (by omega) (by omega) (fun c243 => ?_) (fun c243 => ?_)
                                                · skip
                                                  omega
                                                · skip
                                                  refine g_iload (pc := 246) (pl := 4) X dL_notes_246 rfl ?_
                                                  refine g_aload_n (pc := 248) (pl := 7) X dL_notes_248 rfl ?_
                                                  refine g_iconst (pc := 249) X dL_notes_249 ?_
                                                  refine gVi (pc := 250) (n2 := 0) (k2 := 0) X cs_L_notes_9 (c_X8_count (zl K) D base x lo m sa sl st ss g n f 0 hq hlo hI (by omega)) rfl hO (by omega) hA rfl ⟨Nat.le_of_ble_eq_true rfl, Nat.le_of_ble_eq_true rfl⟩ dL_notes_250 (Nat.le_of_ble_eq_true rfl) rfl rfl (fun v250 H12 hp250 hs250 => ?_)
                                                  obtain ⟨hv, hA1, hF1⟩ := hp250
                                                  rw [ct_0] at hv
                                                  subst hv
                                                  replace hF := hF.trans hF1
                                                  replace hA := hA1
                                                  replace hO := hA.1
                                                  clear hA1 hF1 hs250
                                                  refine g_icmp_ge (pc := 253) X 321 dL_notes_253 (by decide) (by omega) (by omega) (fun c253 => ?_) (fun c253 => ?_)
                                                  · skip
                                                    omega
                                                  · skip
                                                    refine g_aload_n (pc := 256) (pl := 7) X dL_notes_256 rfl ?_
                                                    refine g_iload (pc := 257) (pl := 9) X dL_notes_257 rfl ?_
                                                    refine g_iconst (pc := 259) X dL_notes_259 ?_
                                                    refine gVi (pc := 260) (n2 := 0) (k2 := 0) X cs_L_notes_15 (c_X8_of (zl K) D base x lo m sa sl st ss g n f i 4 hq hlo hI (by omega) (by omega)) rfl hO (by omega) hA rfl ⟨Nat.le_of_ble_eq_true rfl, Nat.le_of_ble_eq_true rfl⟩ dL_notes_260 (Nat.le_of_ble_eq_true rfl) rfl rfl (fun v260 H13 hp260 hs260 => ?_)
                                                    obtain ⟨hv, hA1, hF1⟩ := hp260
                                                    subst hv
                                                    replace hF := hF.trans hF1
                                                    replace hA := hA1
                                                    replace hO := hA.1
                                                    clear hA1 hF1 hs260
                                                    refine g_aload_n (pc := 263) (pl := 7) X dL_notes_263 rfl ?_
                                                    refine g_iload (pc := 264) (pl := 9) X dL_notes_264 rfl ?_
                                                    refine g_iconst (pc := 266) X dL_notes_266 ?_
                                                    refine gVi (pc := 267) (n2 := 0) (k2 := 0) X cs_L_notes_15 (c_X8_of (zl K) D base x lo m sa sl st ss g n f i 3 hq hlo hI (by omega) (by omega)) rfl hO (by omega) hA rfl ⟨Nat.le_of_ble_eq_true rfl, Nat.le_of_ble_eq_true rfl⟩ dL_notes_267 (Nat.le_of_ble_eq_true rfl) rfl rfl (fun v267 H14 hp267 hs267 => ?_)
                                                    obtain ⟨hv, hA1, hF1⟩ := hp267
                                                    subst hv
                                                    replace hF := hF.trans hF1
                                                    replace hA := hA1
                                                    replace hO := hA.1
                                                    clear hA1 hF1 hs267
                                                    refine g_icmp_gt (pc := 270) X 321 dL_notes_270 (by decide) (by omega) (by omega) (fun c270 => ?_) (fun c270 => ?_)
                                                    · skip
                                                      omega
                                                    · skip
                                                      refine g_aload_n (pc := 273) (pl := 7) X dL_notes_273 rfl ?_
                                                      refine g_iload (pc := 274) (pl := 9) X dL_notes_274 rfl ?_
                                                      refine g_iconst (pc := 276) X dL_notes_276 ?_
                                                      refine gVi (pc := 277) (n2 := 0) (k2 := 0) X cs_L_notes_15 (c_X8_of (zl K) D base x lo m sa sl st ss g n f i 5 hq hlo hI (by omega) (by omega)) rfl hO (by omega) hA rfl ⟨Nat.le_of_ble_eq_true rfl, Nat.le_of_ble_eq_true rfl⟩ dL_notes_277 (Nat.le_of_ble_eq_true rfl) rfl rfl (fun v277 H15 hp277 hs277 => ?_)
                                                      obtain ⟨hv, hA1, hF1⟩ := hp277
                                                      subst hv
                                                      replace hF := hF.trans hF1
                                                      replace hA := hA1
                                                      replace hO := hA.1
                                                      clear hA1 hF1 hs277
                                                      refine g_aload_n (pc := 280) (pl := 7) X dL_notes_280 rfl ?_
                                                      refine g_iload (pc := 281) (pl := 9) X dL_notes_281 rfl ?_
                                                      refine g_iconst (pc := 283) X dL_notes_283 ?_
                                                      refine gVi (pc := 284) (n2 := 0) (k2 := 0) X cs_L_notes_15 (c_X8_of (zl K) D base x lo m sa sl st ss g n f i 4 hq hlo hI (by omega) (by omega)) rfl hO (by omega) hA rfl ⟨Nat.le_of_ble_eq_true rfl, Nat.le_of_ble_eq_true rfl⟩ dL_notes_284 (Nat.le_of_ble_eq_true rfl) rfl rfl (fun v284 H16 hp284 hs284 => ?_)
                                                      obtain ⟨hv, hA1, hF1⟩ := hp284
                                                      subst hv
                                                      replace hF := hF.trans hF1
                                                      replace hA := hA1
                                                      replace hO := hA.1
                                                      clear hA1 hF1 hs284
                                                      refine g_icmp_gt (pc := 287) X 321 dL_notes_287 (by decide) (by omega) (by omega) (fun c287 => ?_) (fun c287 => ?_)
                                                      · skip
                                                        omega
                                                      · skip
                                                        refine g_iload (pc := 290) (pl := 4) X dL_notes_290 rfl ?_
                                                        refine g_iload (pc := 292) (pl := 5) X dL_notes_292 rfl ?_
                                                        refine g_isub (pc := 294) X dL_notes_294 ?_
                                                        refine g_aload_n (pc := 295) (pl := 7) X dL_notes_295 rfl ?_
                                                        refine g_iload (pc := 296) (pl := 9) X dL_notes_296 rfl ?_
                                                        refine g_iconst (pc := 298) X dL_notes_298 ?_
                                                        refine gVi (pc := 299) (n2 := 0) (k2 := 0) X cs_L_notes_15 (c_X8_of (zl K) D base x lo m sa sl st ss g n f i 4 hq hlo hI (by omega) (by omega)) rfl hO (by omega) hA rfl ⟨Nat.le_of_ble_eq_true rfl, Nat.le_of_ble_eq_true rfl⟩ dL_notes_299 (Nat.le_of_ble_eq_true rfl) rfl rfl (fun v299 H17 hp299 hs299 => ?_)
                                                        obtain ⟨hv, hA1, hF1⟩ := hp299
                                                        subst hv
                                                        replace hF := hF.trans hF1
                                                        replace hA := hA1
                                                        replace hO := hA.1
                                                        clear hA1 hF1 hs299
                                                        refine g_icmp_ge (pc := 302) X 321 dL_notes_302 (by decide) (by omega) (by omega) (fun c302 => ?_) (fun c302 => ?_)
                                                        · skip
                                                          omega
                                                        · skip
                                                          refine g_aload_n (pc := 305) (pl := 7) X dL_notes_305 rfl ?_
                                                          refine g_iload (pc := 306) (pl := 9) X dL_notes_306 rfl ?_
                                                          refine g_iconst (pc := 308) X dL_notes_308 ?_
                                                          refine gVi (pc := 309) (n2 := 0) (k2 := 0) X cs_L_notes_19 (c_X8_could (zl K) D base x lo m sa sl st ss g n f i 0 hq hlo hI (by omega) (by omega)) rfl hO (by omega) hA rfl ⟨Nat.le_of_ble_eq_true rfl, Nat.le_of_ble_eq_true rfl⟩ dL_notes_309 (Nat.le_of_ble_eq_true rfl) rfl rfl (fun v309 H18 hp309 hs309 => ?_)
                                                          obtain ⟨hv, hA1, hF1⟩ := hp309
                                                          subst hv
                                                          replace hF := hF.trans hF1
                                                          replace hA := hA1
                                                          replace hO := hA.1
                                                          clear hA1 hF1 hs309
                                                          refine g_bipush (pc := 312) X dL_notes_312 (by decide +kernel) ?_
                                                          refine g_icmp_ne (pc := 314) X 321 dL_notes_314 (by decide) (by omega) (by omega) (fun c314 => ?_) (fun c314 => ?_)
                                                          · skip
                                                            omega
                                                          · skip
                                                            refine g_iconst (pc := 317) X dL_notes_317 ?_
                                                            refine g_goto (pc := 318) X 322 dL_notes_318 (by decide) ?_
                                                            refine g_istore (pc := 322) (lv' := [(5, _), (3, _), (2, _), (1, _), (9, _), (8, _), (7, _), (0, _), (4, _), (6, _)]) X dL_notes_322 (by decide) rfl ?_
                                                            refine g_iload (pc := 324) (pl := 5) X dL_notes_324 rfl ?_
                                                            refine g_istore (pc := 326) (lv' := [(10, _), (5, _), (3, _), (2, _), (1, _), (9, _), (8, _), (7, _), (0, _), (4, _), (6, _)]) X dL_notes_326 (by decide) rfl ?_
                                                            have hL328 : ∀ (fu : Nat) (p : Int) (Hy : Heap), (ofR g i 2 + 1 - p).toNat < fu → (ofR g i 1 ≤ p ∧ p ≤ ofR g i 2 + 1) → (AnAt D x lo m sa sl st ss g n f Hy) → (Fz x lo H Hy) → G K 0 0 Hy 328 [(0, .ref x), (1, .int (J (o + 0))), (2, .int (J (r + 0))), (3, .int (J (t + 0))), (4, .int (J 0)), (5, .int (J 1)), (6, .int (J i)), (7, .int (J (ofR g i 0))), (8, .int (J (ofR g i 1))), (9, .int (J (ofR g i 2))), (10, .int (J p))] [] := by
                                                              intro fu
                                                              induction fu with
                                                              | zero => intro p Hy hm; exact absurd hm (Nat.not_lt_zero _)
                                                              | succ fu ih328 =>
                                                                intro p Hy hm h2 hA hF
                                                                have hO := hA.1
                                                                refine g_iload (pc := 328) (pl := 10) X dL_notes_328 rfl ?_
                                                                refine g_iload (pc := 330) (pl := 9) X dL_notes_330 rfl ?_
                                                                refine g_icmp_gt (pc := 332) X 368 dL_notes_332 (by decide) (by omega) (by omega) (fun c332 => ?_) (fun c332 => ?_)
                                                                · skip
                                                                  refine g_iload (pc := 368) (pl := 5) X dL_notes_368 rfl ?_
                                                                  refine g_if_eq (pc := 370) X 405 dL_notes_370 (by decide) (by omega) (fun c370 => ?_) (fun c370 => ?_)
                                                                  · skip
                                                                    exact absurd c370 (by decide)
                                                                  · skip
                                                                    refine g_aload_n (pc := 373) (pl := 0) X dL_notes_373 rfl ?_
                                                                    refine g_iload (pc := 374) (pl := 6) X dL_notes_374 rfl ?_
                                                                    refine g_iconst (pc := 376) X dL_notes_376 ?_
                                                                    refine gVi (pc := 377) (n2 := 0) (k2 := 0) X cs_L_notes_15 (c_X8_of (zl K) D base x lo m sa sl st ss g n f i 5 hq hlo hI (by omega) (by omega)) rfl hO (by omega) hA rfl ⟨Nat.le_of_ble_eq_true rfl, Nat.le_of_ble_eq_true rfl⟩ dL_notes_377 (Nat.le_of_ble_eq_true rfl) rfl rfl (fun v377 H19 hp377 hs377 => ?_)
                                                                    obtain ⟨hv, hA1, hF1⟩ := hp377
                                                                    subst hv
                                                                    replace hF := hF.trans hF1
                                                                    replace hA := hA1
                                                                    replace hO := hA.1
                                                                    clear hA1 hF1 hs377
                                                                    refine g_iconst (pc := 380) X dL_notes_380 ?_
                                                                    refine g_icmp_gt (pc := 381) X 401 dL_notes_381 (by decide) (by omega) (by omega) (fun c381 => ?_) (fun c381 => ?_)
                                                                    · skip
                                                                      omega
                                                                    · skip
                                                                      refine g_aload_n (pc := 384) (pl := 0) X dL_notes_384 rfl ?_
                                                                      refine g_iload (pc := 385) (pl := 6) X dL_notes_385 rfl ?_
                                                                      refine g_iconst (pc := 387) X dL_notes_387 ?_
                                                                      refine gVi (pc := 388) (n2 := 0) (k2 := 0) X cs_L_notes_15 (c_X8_of (zl K) D base x lo m sa sl st ss g n f i 4 hq hlo hI (by omega) (by omega)) rfl hO (by omega) hA rfl ⟨Nat.le_of_ble_eq_true rfl, Nat.le_of_ble_eq_true rfl⟩ dL_notes_388 (Nat.le_of_ble_eq_true rfl) rfl rfl (fun v388 H20 hp388 hs388 => ?_)
                                                                      obtain ⟨hv, hA1, hF1⟩ := hp388
                                                                      subst hv
                                                                      replace hF := hF.trans hF1
                                                                      replace hA := hA1
                                                                      replace hO := hA.1
                                                                      clear hA1 hF1 hs388
                                                                      refine g_iload (pc := 391) (pl := 9) X dL_notes_391 rfl ?_
                                                                      refine g_iload (pc := 393) (pl := 8) X dL_notes_393 rfl ?_
                                                                      refine g_isub (pc := 395) X dL_notes_395 ?_
                                                                      refine g_iconst (pc := 396) X dL_notes_396 ?_
                                                                      refine g_iadd (pc := 397) X dL_notes_397 ?_
                                                                      refine g_icmp_ne (pc := 398) X 405 dL_notes_398 (by decide) (by omega) (by omega) (fun c398 => ?_) (fun c398 => ?_)
                                                                      · skip
                                                                        omega
                                                                      · skip
                                                                        refine g_iconst (pc := 401) X dL_notes_401 ?_
                                                                        refine g_goto (pc := 402) X 406 dL_notes_402 (by decide) ?_
                                                                        refine g_istore (pc := 406) (lv' := [(5, _), (0, _), (1, _), (2, _), (3, _), (4, _), (6, _), (7, _), (8, _), (9, _), (10, _)]) X dL_notes_406 (by decide) rfl ?_
                                                                        refine g_goto (pc := 408) X 561 dL_notes_408 (by decide) ?_
                                                                        refine g_iload (pc := 561) (pl := 0) X dL_notes_561 rfl ?_
                                                                        refine g_if_eq (pc := 563) X 621 dL_notes_563 (by decide) (by omega) (fun c563 => ?_) (fun c563 => ?_)
                                                                        · skip
                                                                          exact absurd c563 (by decide)
                                                                        · skip
                                                                          refine g_iload (pc := 566) (pl := 7) X dL_notes_566 rfl ?_
                                                                          refine g_iconst (pc := 568) X dL_notes_568 ?_
                                                                          refine g_icmp_eq (pc := 569) X 617 dL_notes_569 (by decide) (by omega) (by omega) (fun c569 => ?_) (fun c569 => ?_)
                                                                          · skip
                                                                            omega
                                                                          · skip
                                                                            refine g_aload_n (pc := 572) (pl := 1) X dL_notes_572 rfl ?_
                                                                            refine g_iload (pc := 573) (pl := 6) X dL_notes_573 rfl ?_
                                                                            refine g_iconst (pc := 575) X dL_notes_575 ?_
                                                                            refine gVi (pc := 576) (n2 := 0) (k2 := 0) X cs_L_notes_28 (c_X8_word (zl K) D base x lo m sa sl st ss g n f i 0 hq hlo hI (by omega) (by omega)) rfl hO (by omega) hA rfl ⟨Nat.le_of_ble_eq_true rfl, Nat.le_of_ble_eq_true rfl⟩ dL_notes_576 (Nat.le_of_ble_eq_true rfl) rfl rfl (fun v576 H21 hp576 hs576 => ?_)
                                                                            obtain ⟨hv, hA1, hF1⟩ := hp576
                                                                            subst hv
                                                                            replace hF := hF.trans hF1
                                                                            replace hA := hA1
                                                                            replace hO := hA.1
                                                                            clear hA1 hF1 hs576
                                                                            refine g_if_lt (pc := 579) X 621 dL_notes_579 (by decide) (by omega) (fun c579 => ?_) (fun c579 => ?_)
                                                                            · skip
                                                                              omega
                                                                            · skip
                                                                              refine g_aload_n (pc := 582) (pl := 1) X dL_notes_582 rfl ?_
                                                                              refine g_iload (pc := 583) (pl := 6) X dL_notes_583 rfl ?_
                                                                              refine g_aload_n (pc := 585) (pl := 1) X dL_notes_585 rfl ?_
                                                                              refine g_iload (pc := 586) (pl := 6) X dL_notes_586 rfl ?_
                                                                              refine g_iconst (pc := 588) X dL_notes_588 ?_
                                                                              refine gVi (pc := 589) (n2 := 0) (k2 := 0) X cs_L_notes_15 (c_X8_of (zl K) D base x lo m sa sl st ss g n f i 3 hq hlo hI (by omega) (by omega)) rfl hO (by omega) hA rfl ⟨Nat.le_of_ble_eq_true rfl, Nat.le_of_ble_eq_true rfl⟩ dL_notes_589 (Nat.le_of_ble_eq_true rfl) rfl rfl (fun v589 H22 hp589 hs589 => ?_)
                                                                              obtain ⟨hv, hA1, hF1⟩ := hp589
                                                                              subst hv
                                                                              replace hF := hF.trans hF1
                                                                              replace hA := hA1
                                                                              replace hO := hA.1
                                                                              clear hA1 hF1 hs589
                                                                              refine g_iconst (pc := 592) X dL_notes_592 ?_
                                                                              refine g_isub (pc := 593) X dL_notes_593 ?_
                                                                              refine gVi (pc := 594) (n2 := 0) (k2 := 0) X cs_L_notes_28 (c_X8_word (zl K) D base x lo m sa sl st ss g n f i ((ofR g i 3) - 1) hq hlo hI (by omega) (by omega)) rfl hO (by omega) hA rfl ⟨Nat.le_of_ble_eq_true rfl, Nat.le_of_ble_eq_true rfl⟩ dL_notes_594 (Nat.le_of_ble_eq_true rfl) rfl rfl (fun v594 H23 hp594 hs594 => ?_)
                                                                              obtain ⟨hv, hA1, hF1⟩ := hp594
                                                                              subst hv
                                                                              replace hF := hF.trans hF1
                                                                              replace hA := hA1
                                                                              replace hO := hA.1
                                                                              clear hA1 hF1 hs594
                                                                              refine g_if_lt (pc := 597) X 621 dL_notes_597 (by decide) (by omega) (fun c597 => ?_) (fun c597 => ?_)
                                                                              · skip
                                                                                omega
                                                                              · skip
                                                                                refine g_aload_n (pc := 600) (pl := 1) X dL_notes_600 rfl ?_
                                                                                refine g_iload (pc := 601) (pl := 6) X dL_notes_601 rfl ?_
                                                                                refine g_aload_n (pc := 603) (pl := 1) X dL_notes_603 rfl ?_
                                                                                refine g_iload (pc := 604) (pl := 6) X dL_notes_604 rfl ?_
                                                                                refine g_iconst (pc := 606) X dL_notes_606 ?_
                                                                                refine gVi (pc := 607) (n2 := 0) (k2 := 0) X cs_L_notes_15 (c_X8_of (zl K) D base x lo m sa sl st ss g n f i 3 hq hlo hI (by omega) (by omega)) rfl hO (by omega) hA rfl ⟨Nat.le_of_ble_eq_true rfl, Nat.le_of_ble_eq_true rfl⟩ dL_notes_607 (Nat.le_of_ble_eq_true rfl) rfl rfl (fun v607 H24 hp607 hs607 => ?_)
                                                                                obtain ⟨hv, hA1, hF1⟩ := hp607
                                                                                subst hv
                                                                                replace hF := hF.trans hF1
                                                                                replace hA := hA1
                                                                                replace hO := hA.1
                                                                                clear hA1 hF1 hs607
                                                                                refine gVi (pc := 610) (n2 := 0) (k2 := 0) X cs_L_notes_28 (c_X8_word (zl K) D base x lo m sa sl st ss g n f i (ofR g i 3) hq hlo hI (by omega) (by omega)) rfl hO (by omega) hA rfl ⟨Nat.le_of_ble_eq_true rfl, Nat.le_of_ble_eq_true rfl⟩ dL_notes_610 (Nat.le_of_ble_eq_true rfl) rfl rfl (fun v610 H25 hp610 hs610 => ?_)
                                                                                obtain ⟨hv, hA1, hF1⟩ := hp610
                                                                                subst hv
                                                                                replace hF := hF.trans hF1
                                                                                replace hA := hA1
                                                                                replace hO := hA.1
                                                                                clear hA1 hF1 hs610
                                                                                refine g_iconst (pc := 613) X dL_notes_613 ?_
                                                                                refine g_icmp_ne (pc := 614) X 621 dL_notes_614 (by decide) (by omega) (by omega) (fun c614 => ?_) (fun c614 => ?_)
                                                                                · skip
                                                                                  omega
                                                                                · skip
                                                                                  refine g_iconst (pc := 617) X dL_notes_617 ?_
                                                                                  refine g_goto (pc := 618) X 622 dL_notes_618 (by decide) ?_
                                                                                  refine g_istore (pc := 622) (lv' := [(5, _), (0, _), (1, _), (2, _), (3, _), (4, _), (6, _), (7, _), (8, _), (9, _), (10, _)]) X dL_notes_622 (by decide) rfl ?_
                                                                                  refine g_iinc (pc := 624) (pl := 6) (x := i) (lv' := [(6, _), (5, _), (0, _), (1, _), (2, _), (3, _), (4, _), (7, _), (8, _), (9, _), (10, _)]) X dL_notes_624 rfl (by decide) rfl ?_
                                                                                  refine g_goto (pc := 627) X 39 dL_notes_627 (by decide) ?_
                                                                                  refine G.pick [2, 3, 4, 5, 6, 1, 0] (lv' := [(0, _), (1, _), (2, _), (3, _), (4, _), (5, _), (6, _)]) rfl ?_
                                                                                  exact ih39 (i + 1) (o + 0) (r + 0) (t + 0) H25 (by omega) (by omega) (cn_no (P := fun n => decide (stt g n = 1)) ho (by omega) (by exact fun z => absurd (of_decide_eq_true z) (by omega))) (cn_no (P := fun n => decide (stt g n = 2)) hr (by omega) (by exact fun z => absurd (of_decide_eq_true z) (by omega))) (cn_no (P := fun n => decide (1 < ntP g n)) ht (by omega) (by exact fun z => absurd (of_decide_eq_true z) (by omega))) hA hF
                                                                · skip
                                                                  refine g_iload (pc := 335) (pl := 5) X dL_notes_335 rfl ?_
                                                                  refine g_if_eq (pc := 337) X 368 dL_notes_337 (by decide) (by omega) (fun c337 => ?_) (fun c337 => ?_)
                                                                  · skip
                                                                    exact absurd c337 (by decide)
                                                                  · skip
                                                                    refine g_aload_n (pc := 340) (pl := 0) X dL_notes_340 rfl ?_
                                                                    refine g_iload (pc := 341) (pl := 10) X dL_notes_341 rfl ?_
                                                                    refine gVi (pc := 343) (n2 := 0) (k2 := 0) X cs_L_notes_22 (c_X8_at (zl K) D base x lo m sa sl st ss g n f p hq hlo hI (by omega)) rfl hO (by omega) hA rfl ⟨Nat.le_of_ble_eq_true rfl, Nat.le_of_ble_eq_true rfl⟩ dL_notes_343 (Nat.le_of_ble_eq_true rfl) rfl rfl (fun v343 H19 hp343 hs343 => ?_)
                                                                    obtain ⟨hv, hA1, hF1⟩ := hp343
                                                                    rw [show itm (g 0) (OW g) p = OW g p from if_pos (by omega)] at hv
                                                                    subst hv
                                                                    replace hF := hF.trans hF1
                                                                    replace hA := hA1
                                                                    replace hO := hA.1
                                                                    clear hA1 hF1 hs343
                                                                    refine g_iload (pc := 346) (pl := 6) X dL_notes_346 rfl ?_
                                                                    have hop := hI.own p (by omega) (by omega)
                                                                    refine g_ishr (pc := 348) (z := J (((OW g p).toNat / 2 ^ i.toNat : Nat) : Int)) X dL_notes_348 (J_shr (by omega) (by omega)) ?_
                                                                    refine g_iconst (pc := 349) X dL_notes_349 ?_
                                                                    refine g_iand (pc := 350) (z := J 1) X dL_notes_350 ((J_and (by first | exact Int.natCast_nonneg _ | exact Int.ofNat_nonneg _) (by omega)).trans (by rw [btt_div, if_pos (sd_own hI hin c0 (by omega) (by omega))])) ?_
                                                                    refine g_iconst (pc := 351) X dL_notes_351 ?_
                                                                    refine g_icmp_ne (pc := 352) X 359 dL_notes_352 (by decide) (by omega) (by omega) (fun c352 => ?_) (fun c352 => ?_)
                                                                    · skip
                                                                      omega
                                                                    · skip
                                                                      refine g_iconst (pc := 355) X dL_notes_355 ?_
                                                                      refine g_goto (pc := 356) X 360 dL_notes_356 (by decide) ?_
                                                                      refine g_istore (pc := 360) (lv' := [(5, _), (0, _), (1, _), (2, _), (3, _), (4, _), (6, _), (7, _), (8, _), (9, _), (10, _)]) X dL_notes_360 (by decide) rfl ?_
                                                                      refine g_iinc (pc := 362) (pl := 10) (x := p) (lv' := [(10, _), (5, _), (0, _), (1, _), (2, _), (3, _), (4, _), (6, _), (7, _), (8, _), (9, _)]) X dL_notes_362 rfl (by decide) rfl ?_
                                                                      refine g_goto (pc := 365) X 328 dL_notes_365 (by decide) ?_
                                                                      refine G.pick [2, 3, 4, 5, 6, 1, 7, 8, 9, 10, 0] (lv' := [(0, _), (1, _), (2, _), (3, _), (4, _), (5, _), (6, _), (7, _), (8, _), (9, _), (10, _)]) rfl ?_
                                                                      exact ih328 (p + 1) H19 (by omega) (by omega) hA hF
                                                            refine G.pick [8, 4, 3, 2, 9, 1, 10, 7, 6, 5, 0] (lv' := [(0, _), (1, _), (2, _), (3, _), (4, _), (5, _), (6, _), (7, _), (8, _), (9, _), (10, _)]) rfl ?_
                                                            exact hL328 _ (ofR g i 1) H18 (Nat.lt_succ_self _) (by omega) hA hF
                                  · skip
                                    omega
                                · skip
                                  omega
                            · skip
                              omega
                          · skip
                            omega
                        · skip
                          omega
                    · skip
                      omega
                  · skip
                    omega
              · skip
                by_cases c1 : ofR g i 0 = 1
                · skip
                  obtain ⟨s1, s2, s3, s4, s5, s6, s7, s8, s9, s10, s11, s12, s13⟩ := sd_orph hI hin c1
                  obtain ⟨w1, w2, w3, w4, w5, w6, w7⟩ := sd_word hI hin s12
                  clear a6 c0
                  refine g_iload_n (pc := 81) (pl := 4) X dL_notes_81 rfl ?_
                  refine g_iload (pc := 82) (pl := 2) X dL_notes_82 rfl ?_
                  refine g_iconst (pc := 84) X dL_notes_84 ?_
                  refine g_icmp_ne (pc := 85) X 92 dL_notes_85 (by decide) (by omega) (by omega) (fun c85 => ?_) (fun c85 => ?_)
                  · skip
                    omega
                  · skip
                    refine g_iconst (pc := 88) X dL_notes_88 ?_
                    refine g_goto (pc := 89) X 93 dL_notes_89 (by decide) ?_
                    refine g_iadd (pc := 93) X dL_notes_93 ?_
                    refine g_istore_n (pc := 94) (lv' := [(1, _), (9, _), (8, _), (7, _), (0, _), (2, _), (3, _), (4, _), (5, _), (6, _)]) X dL_notes_94 (by decide) rfl ?_
                    refine g_iload_n (pc := 95) (pl := 5) X dL_notes_95 rfl ?_
                    refine g_iload (pc := 96) (pl := 3) X dL_notes_96 rfl ?_
                    refine g_iconst (pc := 98) X dL_notes_98 ?_
                    refine g_icmp_ne (pc := 99) X 106 dL_notes_99 (by decide) (by omega) (by omega) (fun c99 => ?_) (fun c99 => ?_)
                    · skip
                      refine g_iconst (pc := 106) X dL_notes_106 ?_
                      refine g_iadd (pc := 107) X dL_notes_107 ?_
                      refine g_istore_n (pc := 108) (lv' := [(2, _), (1, _), (9, _), (8, _), (7, _), (0, _), (3, _), (4, _), (5, _), (6, _)]) X dL_notes_108 (by decide) rfl ?_
                      refine g_iload_n (pc := 109) (pl := 6) X dL_notes_109 rfl ?_
                      refine g_iload (pc := 110) (pl := 4) X dL_notes_110 rfl ?_
                      refine g_if_ne (pc := 112) X 130 dL_notes_112 (by decide) (by omega) (fun c112 => ?_) (fun c112 => ?_)
                      · skip
                        refine g_iconst (pc := 130) X dL_notes_130 ?_
                        refine g_iadd (pc := 131) X dL_notes_131 ?_
                        refine g_istore_n (pc := 132) (lv' := [(3, _), (2, _), (1, _), (9, _), (8, _), (7, _), (0, _), (4, _), (5, _), (6, _)]) X dL_notes_132 (by decide) rfl ?_
                        refine g_iload (pc := 133) (pl := 5) X dL_notes_133 rfl ?_
                        refine g_iconst (pc := 135) X dL_notes_135 ?_
                        refine g_icmp_ne (pc := 136) X 143 dL_notes_136 (by decide) (by omega) (by omega) (fun c136 => ?_) (fun c136 => ?_)
                        · skip
                          refine g_iconst (pc := 143) X dL_notes_143 ?_
                          refine g_aload_n (pc := 144) (pl := 6) X dL_notes_144 rfl ?_
                          refine g_iload (pc := 145) (pl := 9) X dL_notes_145 rfl ?_
                          refine g_bipush (pc := 147) X dL_notes_147 (by decide +kernel) ?_
                          refine gVi (pc := 149) (n2 := 0) (k2 := 0) X cs_L_notes_15 (c_X8_of (zl K) D base x lo m sa sl st ss g n f i 6 hq hlo hI (by omega) (by omega)) rfl hO (by omega) hA rfl ⟨Nat.le_of_ble_eq_true rfl, Nat.le_of_ble_eq_true rfl⟩ dL_notes_149 (Nat.le_of_ble_eq_true rfl) rfl rfl (fun v149 H7 hp149 hs149 => ?_)
                          obtain ⟨hv, hA1, hF1⟩ := hp149
                          subst hv
                          replace hF := hF.trans hF1
                          replace hA := hA1
                          replace hO := hA.1
                          clear hA1 hF1 hs149
                          refine g_if_lt (pc := 152) X 159 dL_notes_152 (by decide) (by omega) (fun c152 => ?_) (fun c152 => ?_)
                          · skip
                            refine g_iconst (pc := 159) X dL_notes_159 ?_
                            refine g_icmp_ne (pc := 160) X 221 dL_notes_160 (by decide) (by omega) (by omega) (fun c160 => ?_) (fun c160 => ?_)
                            · skip
                              omega
                            · skip
                              refine g_iload (pc := 163) (pl := 4) X dL_notes_163 rfl ?_
                              refine g_bipush (pc := 165) X dL_notes_165 (by decide +kernel) ?_
                              refine g_icmp_ne (pc := 167) X 174 dL_notes_167 (by decide) (by omega) (by omega) (fun c167 => ?_) (fun c167 => ?_)
                              · skip
                                omega
                              · skip
                                refine g_iconst (pc := 170) X dL_notes_170 ?_
                                refine g_goto (pc := 171) X 175 dL_notes_171 (by decide) ?_
                                refine g_iload (pc := 175) (pl := 3) X dL_notes_175 rfl ?_
                                refine g_bipush (pc := 177) X dL_notes_177 (by decide +kernel) ?_
                                refine g_icmp_ne (pc := 179) X 186 dL_notes_179 (by decide) (by omega) (by omega) (fun c179 => ?_) (fun c179 => ?_)
                                · skip
                                  omega
                                · skip
                                  refine g_iconst (pc := 182) X dL_notes_182 ?_
                                  refine g_goto (pc := 183) X 187 dL_notes_183 (by decide) ?_
                                  refine g_icmp_ne (pc := 187) X 221 dL_notes_187 (by decide) (by omega) (by omega) (fun c187 => ?_) (fun c187 => ?_)
                                  · skip
                                    omega
                                  · skip
                                    refine g_aload_n (pc := 190) (pl := 6) X dL_notes_190 rfl ?_
                                    refine g_iload (pc := 191) (pl := 9) X dL_notes_191 rfl ?_
                                    refine g_bipush (pc := 193) X dL_notes_193 (by decide +kernel) ?_
                                    refine gVi (pc := 195) (n2 := 0) (k2 := 0) X cs_L_notes_15 (c_X8_of (zl K) D base x lo m sa sl st ss g n f i 7 hq hlo hI (by omega) (by omega)) rfl hO (by omega) hA rfl ⟨Nat.le_of_ble_eq_true rfl, Nat.le_of_ble_eq_true rfl⟩ dL_notes_195 (Nat.le_of_ble_eq_true rfl) rfl rfl (fun v195 H8 hp195 hs195 => ?_)
                                    obtain ⟨hv, hA1, hF1⟩ := hp195
                                    subst hv
                                    replace hF := hF.trans hF1
                                    replace hA := hA1
                                    replace hO := hA.1
                                    clear hA1 hF1 hs195
                                    refine g_if_lt (pc := 198) X 221 dL_notes_198 (by decide) (by omega) (fun c198 => ?_) (fun c198 => ?_)
                                    · skip
                                      omega
                                    · skip
                                      refine g_aload_n (pc := 201) (pl := 6) X dL_notes_201 rfl ?_
                                      refine g_iload (pc := 202) (pl := 9) X dL_notes_202 rfl ?_
                                      refine g_bipush (pc := 204) X dL_notes_204 (by decide +kernel) ?_
                                      refine gVi (pc := 206) (n2 := 0) (k2 := 0) X cs_L_notes_15 (c_X8_of (zl K) D base x lo m sa sl st ss g n f i 7 hq hlo hI (by omega) (by omega)) rfl hO (by omega) hA rfl ⟨Nat.le_of_ble_eq_true rfl, Nat.le_of_ble_eq_true rfl⟩ dL_notes_206 (Nat.le_of_ble_eq_true rfl) rfl rfl (fun v206 H9 hp206 hs206 => ?_)
                                      obtain ⟨hv, hA1, hF1⟩ := hp206
                                      subst hv
                                      replace hF := hF.trans hF1
                                      replace hA := hA1
                                      replace hO := hA.1
                                      clear hA1 hF1 hs206
                                      refine g_aload_n (pc := 209) (pl := 6) X dL_notes_209 rfl ?_
                                      refine g_iconst (pc := 210) X dL_notes_210 ?_
                                      refine gVi (pc := 211) (n2 := 0) (k2 := 0) X cs_L_notes_9 (c_X8_count (zl K) D base x lo m sa sl st ss g n f 1 hq hlo hI (by omega)) rfl hO (by omega) hA rfl ⟨Nat.le_of_ble_eq_true rfl, Nat.le_of_ble_eq_true rfl⟩ dL_notes_211 (Nat.le_of_ble_eq_true rfl) rfl rfl (fun v211 H10 hp211 hs211 => ?_)
                                      obtain ⟨hv, hA1, hF1⟩ := hp211
                                      rw [ct_1] at hv
                                      subst hv
                                      replace hF := hF.trans hF1
                                      replace hA := hA1
                                      replace hO := hA.1
                                      clear hA1 hF1 hs211
                                      refine g_icmp_ge (pc := 214) X 221 dL_notes_214 (by decide) (by omega) (by omega) (fun c214 => ?_) (fun c214 => ?_)
                                      · skip
                                        omega
                                      · skip
                                        refine g_iconst (pc := 217) X dL_notes_217 ?_
                                        refine g_goto (pc := 218) X 222 dL_notes_218 (by decide) ?_
                                        refine g_istore (pc := 222) (lv' := [(5, _), (3, _), (2, _), (1, _), (9, _), (8, _), (7, _), (0, _), (4, _), (6, _)]) X dL_notes_222 (by decide) rfl ?_
                                        refine g_iload (pc := 224) (pl := 6) X dL_notes_224 rfl ?_
                                        refine g_if_ne (pc := 226) X 411 dL_notes_226 (by decide) (by omega) (fun c226 => ?_) (fun c226 => ?_)
                                        · skip
                                          refine g_iload (pc := 411) (pl := 6) X dL_notes_411 rfl ?_
                                          refine g_iconst (pc := 413) X dL_notes_413 ?_
                                          refine g_icmp_ne (pc := 414) X 508 dL_notes_414 (by decide) (by omega) (by omega) (fun c414 => ?_) (fun c414 => ?_)
                                          · skip
                                            omega
                                          · skip
                                            refine g_iload (pc := 417) (pl := 0) X dL_notes_417 rfl ?_
                                            refine g_if_eq (pc := 419) X 502 dL_notes_419 (by decide) (by omega) (fun c419 => ?_) (fun c419 => ?_)
                                            · skip
                                              exact absurd c419 (by decide)
                                            · skip
                                              refine g_iload (pc := 422) (pl := 5) X dL_notes_422 rfl ?_
                                              refine g_bipush (pc := 424) X dL_notes_424 (by decide +kernel) ?_
                                              refine g_icmp_ne (pc := 426) X 502 dL_notes_426 (by decide) (by omega) (by omega) (fun c426 => ?_) (fun c426 => ?_)
                                              · skip
                                                omega
                                              · skip
                                                refine g_aload_n (pc := 429) (pl := 7) X dL_notes_429 rfl ?_
                                                refine g_iload (pc := 430) (pl := 9) X dL_notes_430 rfl ?_
                                                refine g_iconst (pc := 432) X dL_notes_432 ?_
                                                refine gVi (pc := 433) (n2 := 0) (k2 := 0) X cs_L_notes_15 (c_X8_of (zl K) D base x lo m sa sl st ss g n f i 4 hq hlo hI (by omega) (by omega)) rfl hO (by omega) hA rfl ⟨Nat.le_of_ble_eq_true rfl, Nat.le_of_ble_eq_true rfl⟩ dL_notes_433 (Nat.le_of_ble_eq_true rfl) rfl rfl (fun v433 H11 hp433 hs433 => ?_)
                                                obtain ⟨hv, hA1, hF1⟩ := hp433
                                                subst hv
                                                replace hF := hF.trans hF1
                                                replace hA := hA1
                                                replace hO := hA.1
                                                clear hA1 hF1 hs433
                                                refine g_if_ne (pc := 436) X 502 dL_notes_436 (by decide) (by omega) (fun c436 => ?_) (fun c436 => ?_)
                                                · skip
                                                  omega
                                                · skip
                                                  refine g_aload_n (pc := 439) (pl := 7) X dL_notes_439 rfl ?_
                                                  refine g_iload (pc := 440) (pl := 9) X dL_notes_440 rfl ?_
                                                  refine g_iconst (pc := 442) X dL_notes_442 ?_
                                                  refine gVi (pc := 443) (n2 := 0) (k2 := 0) X cs_L_notes_15 (c_X8_of (zl K) D base x lo m sa sl st ss g n f i 5 hq hlo hI (by omega) (by omega)) rfl hO (by omega) hA rfl ⟨Nat.le_of_ble_eq_true rfl, Nat.le_of_ble_eq_true rfl⟩ dL_notes_443 (Nat.le_of_ble_eq_true rfl) rfl rfl (fun v443 H12 hp443 hs443 => ?_)
                                                  obtain ⟨hv, hA1, hF1⟩ := hp443
                                                  subst hv
                                                  replace hF := hF.trans hF1
                                                  replace hA := hA1
                                                  replace hO := hA.1
                                                  clear hA1 hF1 hs443
                                                  refine g_if_ne (pc := 446) X 502 dL_notes_446 (by decide) (by omega) (fun c446 => ?_) (fun c446 => ?_)
                                                  · skip
                                                    omega
                                                  · skip
                                                    refine g_aload_n (pc := 449) (pl := 7) X dL_notes_449 rfl ?_
                                                    refine g_iload (pc := 450) (pl := 9) X dL_notes_450 rfl ?_
                                                    refine g_iconst (pc := 452) X dL_notes_452 ?_
                                                    refine gVi (pc := 453) (n2 := 0) (k2 := 0) X cs_L_notes_25 (c_X8_printed (zl K) D base x lo m sa sl st ss g n f i 0 hq hlo hI (by omega) (by omega)) rfl hO (by omega) hA rfl ⟨Nat.le_of_ble_eq_true rfl, Nat.le_of_ble_eq_true rfl⟩ dL_notes_453 (Nat.le_of_ble_eq_true rfl) rfl rfl (fun v453 H13 hp453 hs453 => ?_)
                                                    obtain ⟨hv, hA1, hF1⟩ := hp453
                                                    subst hv
                                                    replace hF := hF.trans hF1
                                                    replace hA := hA1
                                                    replace hO := hA.1
                                                    clear hA1 hF1 hs453
                                                    refine g_bipush (pc := 456) X dL_notes_456 (by decide +kernel) ?_
                                                    refine g_icmp_ne (pc := 458) X 502 dL_notes_458 (by decide) (by omega) (by omega) (fun c458 => ?_) (fun c458 => ?_)
                                                    · skip
                                                      omega
                                                    · skip
                                                      by_cases cq : coR g i 0 = -6
                                                      · skip
                                                        have s14 : coR g i 2 = -6 := by omega
                                                        clear s7
                                                        refine g_aload_n (pc := 461) (pl := 7) X dL_notes_461 rfl ?_
                                                        refine g_iload (pc := 462) (pl := 9) X dL_notes_462 rfl ?_
                                                        refine g_iconst (pc := 464) X dL_notes_464 ?_
                                                        refine gVi (pc := 465) (n2 := 0) (k2 := 0) X cs_L_notes_19 (c_X8_could (zl K) D base x lo m sa sl st ss g n f i 0 hq hlo hI (by omega) (by omega)) rfl hO (by omega) hA rfl ⟨Nat.le_of_ble_eq_true rfl, Nat.le_of_ble_eq_true rfl⟩ dL_notes_465 (Nat.le_of_ble_eq_true rfl) rfl rfl (fun v465 H14 hp465 hs465 => ?_)
                                                        obtain ⟨hv, hA1, hF1⟩ := hp465
                                                        subst hv
                                                        replace hF := hF.trans hF1
                                                        replace hA := hA1
                                                        replace hO := hA.1
                                                        clear hA1 hF1 hs465
                                                        refine g_bipush (pc := 468) X dL_notes_468 (by decide +kernel) ?_
                                                        refine g_icmp_ne (pc := 470) X 477 dL_notes_470 (by decide) (by omega) (by omega) (fun c470 => ?_) (fun c470 => ?_)
                                                        · skip
                                                          omega
                                                        · skip
                                                          refine g_iconst (pc := 473) X dL_notes_473 ?_
                                                          refine g_goto (pc := 474) X 478 dL_notes_474 (by decide) ?_
                                                          refine g_aload_n (pc := 478) (pl := 7) X dL_notes_478 rfl ?_
                                                          refine g_iload (pc := 479) (pl := 9) X dL_notes_479 rfl ?_
                                                          refine g_iconst (pc := 481) X dL_notes_481 ?_
                                                          refine gVi (pc := 482) (n2 := 0) (k2 := 0) X cs_L_notes_19 (c_X8_could (zl K) D base x lo m sa sl st ss g n f i 2 hq hlo hI (by omega) (by omega)) rfl hO (by omega) hA rfl ⟨Nat.le_of_ble_eq_true rfl, Nat.le_of_ble_eq_true rfl⟩ dL_notes_482 (Nat.le_of_ble_eq_true rfl) rfl rfl (fun v482 H15 hp482 hs482 => ?_)
                                                          obtain ⟨hv, hA1, hF1⟩ := hp482
                                                          subst hv
                                                          replace hF := hF.trans hF1
                                                          replace hA := hA1
                                                          replace hO := hA.1
                                                          clear hA1 hF1 hs482
                                                          refine g_bipush (pc := 485) X dL_notes_485 (by decide +kernel) ?_
                                                          refine g_icmp_ne (pc := 487) X 494 dL_notes_487 (by decide) (by omega) (by omega) (fun c487 => ?_) (fun c487 => ?_)
                                                          · skip
                                                            omega
                                                          · skip
                                                            refine g_iconst (pc := 490) X dL_notes_490 ?_
                                                            refine g_goto (pc := 491) X 495 dL_notes_491 (by decide) ?_
                                                            refine g_icmp_ne (pc := 495) X 502 dL_notes_495 (by decide) (by omega) (by omega) (fun c495 => ?_) (fun c495 => ?_)
                                                            · skip
                                                              omega
                                                            · skip
                                                              refine g_iconst (pc := 498) X dL_notes_498 ?_
                                                              refine g_goto (pc := 499) X 503 dL_notes_499 (by decide) ?_
                                                              refine g_istore (pc := 503) (lv' := [(5, _), (3, _), (2, _), (1, _), (9, _), (8, _), (7, _), (0, _), (4, _), (6, _)]) X dL_notes_503 (by decide) rfl ?_
                                                              refine g_goto (pc := 505) X 561 dL_notes_505 (by decide) ?_
                                                              refine g_iload (pc := 561) (pl := 0) X dL_notes_561 rfl ?_
                                                              refine g_if_eq (pc := 563) X 621 dL_notes_563 (by decide) (by omega) (fun c563 => ?_) (fun c563 => ?_)
                                                              · skip
                                                                exact absurd c563 (by decide)
                                                              · skip
                                                                refine g_iload (pc := 566) (pl := 6) X dL_notes_566 rfl ?_
                                                                refine g_iconst (pc := 568) X dL_notes_568 ?_
                                                                refine g_icmp_eq (pc := 569) X 617 dL_notes_569 (by decide) (by omega) (by omega) (fun c569 => ?_) (fun c569 => ?_)
                                                                · skip
                                                                  omega
                                                                · skip
                                                                  refine g_aload_n (pc := 572) (pl := 7) X dL_notes_572 rfl ?_
                                                                  refine g_iload (pc := 573) (pl := 9) X dL_notes_573 rfl ?_
                                                                  refine g_iconst (pc := 575) X dL_notes_575 ?_
                                                                  refine gVi (pc := 576) (n2 := 0) (k2 := 0) X cs_L_notes_28 (c_X8_word (zl K) D base x lo m sa sl st ss g n f i 0 hq hlo hI (by omega) (by omega)) rfl hO (by omega) hA rfl ⟨Nat.le_of_ble_eq_true rfl, Nat.le_of_ble_eq_true rfl⟩ dL_notes_576 (Nat.le_of_ble_eq_true rfl) rfl rfl (fun v576 H16 hp576 hs576 => ?_)
                                                                  obtain ⟨hv, hA1, hF1⟩ := hp576
                                                                  subst hv
                                                                  replace hF := hF.trans hF1
                                                                  replace hA := hA1
                                                                  replace hO := hA.1
                                                                  clear hA1 hF1 hs576
                                                                  refine g_if_lt (pc := 579) X 621 dL_notes_579 (by decide) (by omega) (fun c579 => ?_) (fun c579 => ?_)
                                                                  · skip
                                                                    omega
                                                                  · skip
                                                                    refine g_aload_n (pc := 582) (pl := 7) X dL_notes_582 rfl ?_
                                                                    refine g_iload (pc := 583) (pl := 9) X dL_notes_583 rfl ?_
                                                                    refine g_aload_n (pc := 585) (pl := 7) X dL_notes_585 rfl ?_
                                                                    refine g_iload (pc := 586) (pl := 9) X dL_notes_586 rfl ?_
                                                                    refine g_iconst (pc := 588) X dL_notes_588 ?_
                                                                    refine gVi (pc := 589) (n2 := 0) (k2 := 0) X cs_L_notes_15 (c_X8_of (zl K) D base x lo m sa sl st ss g n f i 3 hq hlo hI (by omega) (by omega)) rfl hO (by omega) hA rfl ⟨Nat.le_of_ble_eq_true rfl, Nat.le_of_ble_eq_true rfl⟩ dL_notes_589 (Nat.le_of_ble_eq_true rfl) rfl rfl (fun v589 H17 hp589 hs589 => ?_)
                                                                    obtain ⟨hv, hA1, hF1⟩ := hp589
                                                                    subst hv
                                                                    replace hF := hF.trans hF1
                                                                    replace hA := hA1
                                                                    replace hO := hA.1
                                                                    clear hA1 hF1 hs589
                                                                    refine g_iconst (pc := 592) X dL_notes_592 ?_
                                                                    refine g_isub (pc := 593) X dL_notes_593 ?_
                                                                    refine gVi (pc := 594) (n2 := 0) (k2 := 0) X cs_L_notes_28 (c_X8_word (zl K) D base x lo m sa sl st ss g n f i ((ofR g i 3) - 1) hq hlo hI (by omega) (by omega)) rfl hO (by omega) hA rfl ⟨Nat.le_of_ble_eq_true rfl, Nat.le_of_ble_eq_true rfl⟩ dL_notes_594 (Nat.le_of_ble_eq_true rfl) rfl rfl (fun v594 H18 hp594 hs594 => ?_)
                                                                    obtain ⟨hv, hA1, hF1⟩ := hp594
                                                                    subst hv
                                                                    replace hF := hF.trans hF1
                                                                    replace hA := hA1
                                                                    replace hO := hA.1
                                                                    clear hA1 hF1 hs594
                                                                    refine g_if_lt (pc := 597) X 621 dL_notes_597 (by decide) (by omega) (fun c597 => ?_) (fun c597 => ?_)
                                                                    · skip
                                                                      omega
                                                                    · skip
                                                                      refine g_aload_n (pc := 600) (pl := 7) X dL_notes_600 rfl ?_
                                                                      refine g_iload (pc := 601) (pl := 9) X dL_notes_601 rfl ?_
                                                                      refine g_aload_n (pc := 603) (pl := 7) X dL_notes_603 rfl ?_
                                                                      refine g_iload (pc := 604) (pl := 9) X dL_notes_604 rfl ?_
                                                                      refine g_iconst (pc := 606) X dL_notes_606 ?_
                                                                      refine gVi (pc := 607) (n2 := 0) (k2 := 0) X cs_L_notes_15 (c_X8_of (zl K) D base x lo m sa sl st ss g n f i 3 hq hlo hI (by omega) (by omega)) rfl hO (by omega) hA rfl ⟨Nat.le_of_ble_eq_true rfl, Nat.le_of_ble_eq_true rfl⟩ dL_notes_607 (Nat.le_of_ble_eq_true rfl) rfl rfl (fun v607 H19 hp607 hs607 => ?_)
                                                                      obtain ⟨hv, hA1, hF1⟩ := hp607
                                                                      subst hv
                                                                      replace hF := hF.trans hF1
                                                                      replace hA := hA1
                                                                      replace hO := hA.1
                                                                      clear hA1 hF1 hs607
                                                                      refine gVi (pc := 610) (n2 := 0) (k2 := 0) X cs_L_notes_28 (c_X8_word (zl K) D base x lo m sa sl st ss g n f i (ofR g i 3) hq hlo hI (by omega) (by omega)) rfl hO (by omega) hA rfl ⟨Nat.le_of_ble_eq_true rfl, Nat.le_of_ble_eq_true rfl⟩ dL_notes_610 (Nat.le_of_ble_eq_true rfl) rfl rfl (fun v610 H20 hp610 hs610 => ?_)
                                                                      obtain ⟨hv, hA1, hF1⟩ := hp610
                                                                      subst hv
                                                                      replace hF := hF.trans hF1
                                                                      replace hA := hA1
                                                                      replace hO := hA.1
                                                                      clear hA1 hF1 hs610
                                                                      refine g_iconst (pc := 613) X dL_notes_613 ?_
                                                                      refine g_icmp_ne (pc := 614) X 621 dL_notes_614 (by decide) (by omega) (by omega) (fun c614 => ?_) (fun c614 => ?_)
                                                                      · skip
                                                                        omega
                                                                      · skip
                                                                        refine g_iconst (pc := 617) X dL_notes_617 ?_
                                                                        refine g_goto (pc := 618) X 622 dL_notes_618 (by decide) ?_
                                                                        refine g_istore (pc := 622) (lv' := [(5, _), (3, _), (2, _), (1, _), (9, _), (8, _), (7, _), (0, _), (4, _), (6, _)]) X dL_notes_622 (by decide) rfl ?_
                                                                        refine g_iinc (pc := 624) (pl := 9) (x := i) (lv' := [(6, _), (5, _), (3, _), (2, _), (1, _), (9, _), (8, _), (7, _), (0, _), (4, _)]) X dL_notes_624 rfl (by decide) rfl ?_
                                                                        refine g_goto (pc := 627) X 39 dL_notes_627 (by decide) ?_
                                                                        refine G.pick [8, 4, 3, 2, 9, 1, 0] (lv' := [(0, _), (1, _), (2, _), (3, _), (4, _), (5, _), (6, _)]) rfl ?_
                                                                        exact ih39 (i + 1) (o + 1) (r + 0) (t + 0) H20 (by omega) (by omega) (cn_yes (P := fun n => decide (stt g n = 1)) ho (by omega) (by exact decide_eq_true (by omega))) (cn_no (P := fun n => decide (stt g n = 2)) hr (by omega) (by exact fun z => absurd (of_decide_eq_true z) (by omega))) (cn_no (P := fun n => decide (1 < ntP g n)) ht (by omega) (by exact fun z => absurd (of_decide_eq_true z) (by omega))) hA hF
                                                      · skip
                                                        have s14 : ¬ coR g i 2 = -6 := by omega
                                                        clear s7
                                                        refine g_aload_n (pc := 461) (pl := 7) X dL_notes_461 rfl ?_
                                                        refine g_iload (pc := 462) (pl := 9) X dL_notes_462 rfl ?_
                                                        refine g_iconst (pc := 464) X dL_notes_464 ?_
                                                        refine gVi (pc := 465) (n2 := 0) (k2 := 0) X cs_L_notes_19 (c_X8_could (zl K) D base x lo m sa sl st ss g n f i 0 hq hlo hI (by omega) (by omega)) rfl hO (by omega) hA rfl ⟨Nat.le_of_ble_eq_true rfl, Nat.le_of_ble_eq_true rfl⟩ dL_notes_465 (Nat.le_of_ble_eq_true rfl) rfl rfl (fun v465 H14 hp465 hs465 => ?_)
                                                        obtain ⟨hv, hA1, hF1⟩ := hp465
                                                        subst hv
                                                        replace hF := hF.trans hF1
                                                        replace hA := hA1
                                                        replace hO := hA.1
                                                        clear hA1 hF1 hs465
                                                        refine g_bipush (pc := 468) X dL_notes_468 (by decide +kernel) ?_
                                                        refine g_icmp_ne (pc := 470) X 477 dL_notes_470 (by decide) (by omega) (by omega) (fun c470 => ?_) (fun c470 => ?_)
                                                        · skip
                                                          refine g_iconst (pc := 477) X dL_notes_477 ?_
                                                          refine g_aload_n (pc := 478) (pl := 7) X dL_notes_478 rfl ?_
                                                          refine g_iload (pc := 479) (pl := 9) X dL_notes_479 rfl ?_
                                                          refine g_iconst (pc := 481) X dL_notes_481 ?_
                                                          refine gVi (pc := 482) (n2 := 0) (k2 := 0) X cs_L_notes_19 (c_X8_could (zl K) D base x lo m sa sl st ss g n f i 2 hq hlo hI (by omega) (by omega)) rfl hO (by omega) hA rfl ⟨Nat.le_of_ble_eq_true rfl, Nat.le_of_ble_eq_true rfl⟩ dL_notes_482 (Nat.le_of_ble_eq_true rfl) rfl rfl (fun v482 H15 hp482 hs482 => ?_)
                                                          obtain ⟨hv, hA1, hF1⟩ := hp482
                                                          subst hv
                                                          replace hF := hF.trans hF1
                                                          replace hA := hA1
                                                          replace hO := hA.1
                                                          clear hA1 hF1 hs482
                                                          refine g_bipush (pc := 485) X dL_notes_485 (by decide +kernel) ?_
                                                          refine g_icmp_ne (pc := 487) X 494 dL_notes_487 (by decide) (by omega) (by omega) (fun c487 => ?_) (fun c487 => ?_)
                                                          · skip
                                                            refine g_iconst (pc := 494) X dL_notes_494 ?_
                                                            refine g_icmp_ne (pc := 495) X 502 dL_notes_495 (by decide) (by omega) (by omega) (fun c495 => ?_) (fun c495 => ?_)
                                                            · skip
                                                              omega
                                                            · skip
                                                              refine g_iconst (pc := 498) X dL_notes_498 ?_
                                                              refine g_goto (pc := 499) X 503 dL_notes_499 (by decide) ?_
                                                              refine g_istore (pc := 503) (lv' := [(5, _), (3, _), (2, _), (1, _), (9, _), (8, _), (7, _), (0, _), (4, _), (6, _)]) X dL_notes_503 (by decide) rfl ?_
                                                              refine g_goto (pc := 505) X 561 dL_notes_505 (by decide) ?_
                                                              refine g_iload (pc := 561) (pl := 0) X dL_notes_561 rfl ?_
                                                              refine g_if_eq (pc := 563) X 621 dL_notes_563 (by decide) (by omega) (fun c563 => ?_) (fun c563 => ?_)
                                                              · skip
                                                                exact absurd c563 (by decide)
                                                              · skip
                                                                refine g_iload (pc := 566) (pl := 6) X dL_notes_566 rfl ?_
                                                                refine g_iconst (pc := 568) X dL_notes_568 ?_
                                                                refine g_icmp_eq (pc := 569) X 617 dL_notes_569 (by decide) (by omega) (by omega) (fun c569 => ?_) (fun c569 => ?_)
                                                                · skip
                                                                  omega
                                                                · skip
                                                                  refine g_aload_n (pc := 572) (pl := 7) X dL_notes_572 rfl ?_
                                                                  refine g_iload (pc := 573) (pl := 9) X dL_notes_573 rfl ?_
                                                                  refine g_iconst (pc := 575) X dL_notes_575 ?_
                                                                  refine gVi (pc := 576) (n2 := 0) (k2 := 0) X cs_L_notes_28 (c_X8_word (zl K) D base x lo m sa sl st ss g n f i 0 hq hlo hI (by omega) (by omega)) rfl hO (by omega) hA rfl ⟨Nat.le_of_ble_eq_true rfl, Nat.le_of_ble_eq_true rfl⟩ dL_notes_576 (Nat.le_of_ble_eq_true rfl) rfl rfl (fun v576 H16 hp576 hs576 => ?_)
                                                                  obtain ⟨hv, hA1, hF1⟩ := hp576
                                                                  subst hv
                                                                  replace hF := hF.trans hF1
                                                                  replace hA := hA1
                                                                  replace hO := hA.1
                                                                  clear hA1 hF1 hs576
                                                                  refine g_if_lt (pc := 579) X 621 dL_notes_579 (by decide) (by omega) (fun c579 => ?_) (fun c579 => ?_)
                                                                  · skip
                                                                    omega
                                                                  · skip
                                                                    refine g_aload_n (pc := 582) (pl := 7) X dL_notes_582 rfl ?_
                                                                    refine g_iload (pc := 583) (pl := 9) X dL_notes_583 rfl ?_
                                                                    refine g_aload_n (pc := 585) (pl := 7) X dL_notes_585 rfl ?_
                                                                    refine g_iload (pc := 586) (pl := 9) X dL_notes_586 rfl ?_
                                                                    refine g_iconst (pc := 588) X dL_notes_588 ?_
                                                                    refine gVi (pc := 589) (n2 := 0) (k2 := 0) X cs_L_notes_15 (c_X8_of (zl K) D base x lo m sa sl st ss g n f i 3 hq hlo hI (by omega) (by omega)) rfl hO (by omega) hA rfl ⟨Nat.le_of_ble_eq_true rfl, Nat.le_of_ble_eq_true rfl⟩ dL_notes_589 (Nat.le_of_ble_eq_true rfl) rfl rfl (fun v589 H17 hp589 hs589 => ?_)
                                                                    obtain ⟨hv, hA1, hF1⟩ := hp589
                                                                    subst hv
                                                                    replace hF := hF.trans hF1
                                                                    replace hA := hA1
                                                                    replace hO := hA.1
                                                                    clear hA1 hF1 hs589
                                                                    refine g_iconst (pc := 592) X dL_notes_592 ?_
                                                                    refine g_isub (pc := 593) X dL_notes_593 ?_
                                                                    refine gVi (pc := 594) (n2 := 0) (k2 := 0) X cs_L_notes_28 (c_X8_word (zl K) D base x lo m sa sl st ss g n f i ((ofR g i 3) - 1) hq hlo hI (by omega) (by omega)) rfl hO (by omega) hA rfl ⟨Nat.le_of_ble_eq_true rfl, Nat.le_of_ble_eq_true rfl⟩ dL_notes_594 (Nat.le_of_ble_eq_true rfl) rfl rfl (fun v594 H18 hp594 hs594 => ?_)
                                                                    obtain ⟨hv, hA1, hF1⟩ := hp594
                                                                    subst hv
                                                                    replace hF := hF.trans hF1
                                                                    replace hA := hA1
                                                                    replace hO := hA.1
                                                                    clear hA1 hF1 hs594
                                                                    refine g_if_lt (pc := 597) X 621 dL_notes_597 (by decide) (by omega) (fun c597 => ?_) (fun c597 => ?_)
                                                                    · skip
                                                                      omega
                                                                    · skip
                                                                      refine g_aload_n (pc := 600) (pl := 7) X dL_notes_600 rfl ?_
                                                                      refine g_iload (pc := 601) (pl := 9) X dL_notes_601 rfl ?_
                                                                      refine g_aload_n (pc := 603) (pl := 7) X dL_notes_603 rfl ?_
                                                                      refine g_iload (pc := 604) (pl := 9) X dL_notes_604 rfl ?_
                                                                      refine g_iconst (pc := 606) X dL_notes_606 ?_
                                                                      refine gVi (pc := 607) (n2 := 0) (k2 := 0) X cs_L_notes_15 (c_X8_of (zl K) D base x lo m sa sl st ss g n f i 3 hq hlo hI (by omega) (by omega)) rfl hO (by omega) hA rfl ⟨Nat.le_of_ble_eq_true rfl, Nat.le_of_ble_eq_true rfl⟩ dL_notes_607 (Nat.le_of_ble_eq_true rfl) rfl rfl (fun v607 H19 hp607 hs607 => ?_)
                                                                      obtain ⟨hv, hA1, hF1⟩ := hp607
                                                                      subst hv
                                                                      replace hF := hF.trans hF1
                                                                      replace hA := hA1
                                                                      replace hO := hA.1
                                                                      clear hA1 hF1 hs607
                                                                      refine gVi (pc := 610) (n2 := 0) (k2 := 0) X cs_L_notes_28 (c_X8_word (zl K) D base x lo m sa sl st ss g n f i (ofR g i 3) hq hlo hI (by omega) (by omega)) rfl hO (by omega) hA rfl ⟨Nat.le_of_ble_eq_true rfl, Nat.le_of_ble_eq_true rfl⟩ dL_notes_610 (Nat.le_of_ble_eq_true rfl) rfl rfl (fun v610 H20 hp610 hs610 => ?_)
                                                                      obtain ⟨hv, hA1, hF1⟩ := hp610
                                                                      subst hv
                                                                      replace hF := hF.trans hF1
                                                                      replace hA := hA1
                                                                      replace hO := hA.1
                                                                      clear hA1 hF1 hs610
                                                                      refine g_iconst (pc := 613) X dL_notes_613 ?_
                                                                      refine g_icmp_ne (pc := 614) X 621 dL_notes_614 (by decide) (by omega) (by omega) (fun c614 => ?_) (fun c614 => ?_)
                                                                      · skip
                                                                        omega
                                                                      · skip
                                                                        refine g_iconst (pc := 617) X dL_notes_617 ?_
                                                                        refine g_goto (pc := 618) X 622 dL_notes_618 (by decide) ?_
                                                                        refine g_istore (pc := 622) (lv' := [(5, _), (3, _), (2, _), (1, _), (9, _), (8, _), (7, _), (0, _), (4, _), (6, _)]) X dL_notes_622 (by decide) rfl ?_
                                                                        refine g_iinc (pc := 624) (pl := 9) (x := i) (lv' := [(6, _), (5, _), (3, _), (2, _), (1, _), (9, _), (8, _), (7, _), (0, _), (4, _)]) X dL_notes_624 rfl (by decide) rfl ?_
                                                                        refine g_goto (pc := 627) X 39 dL_notes_627 (by decide) ?_
                                                                        refine G.pick [8, 4, 3, 2, 9, 1, 0] (lv' := [(0, _), (1, _), (2, _), (3, _), (4, _), (5, _), (6, _)]) rfl ?_
                                                                        exact ih39 (i + 1) (o + 1) (r + 0) (t + 0) H20 (by omega) (by omega) (cn_yes (P := fun n => decide (stt g n = 1)) ho (by omega) (by exact decide_eq_true (by omega))) (cn_no (P := fun n => decide (stt g n = 2)) hr (by omega) (by exact fun z => absurd (of_decide_eq_true z) (by omega))) (cn_no (P := fun n => decide (1 < ntP g n)) ht (by omega) (by exact fun z => absurd (of_decide_eq_true z) (by omega))) hA hF
                                                          · skip
                                                            omega
                                                        · skip
                                                          omega
                                        · skip
                                          omega
                          · skip
                            omega
                        · skip
                          omega
                      · skip
                        omega
                    · skip
                      omega
                · skip
                  have c2 : ofR g i 0 = 2 := by omega
                  obtain ⟨s1, s2, s3, s4, s5, s6, s7, s8, s9, s10, s11⟩ := sd_rep hI hin c2
                  clear c0 c1
                  by_cases cf : ofR g i 1 = -6
                  · skip
                    have s12 : ofR g i 2 = -6 := by omega
                    clear s4
                    refine g_iload_n (pc := 81) (pl := 4) X dL_notes_81 rfl ?_
                    refine g_iload (pc := 82) (pl := 2) X dL_notes_82 rfl ?_
                    refine g_iconst (pc := 84) X dL_notes_84 ?_
                    refine g_icmp_ne (pc := 85) X 92 dL_notes_85 (by decide) (by omega) (by omega) (fun c85 => ?_) (fun c85 => ?_)
                    · skip
                      refine g_iconst (pc := 92) X dL_notes_92 ?_
                      refine g_iadd (pc := 93) X dL_notes_93 ?_
                      refine g_istore_n (pc := 94) (lv' := [(1, _), (9, _), (8, _), (7, _), (0, _), (2, _), (3, _), (4, _), (5, _), (6, _)]) X dL_notes_94 (by decide) rfl ?_
                      refine g_iload_n (pc := 95) (pl := 5) X dL_notes_95 rfl ?_
                      refine g_iload (pc := 96) (pl := 3) X dL_notes_96 rfl ?_
                      refine g_iconst (pc := 98) X dL_notes_98 ?_
                      refine g_icmp_ne (pc := 99) X 106 dL_notes_99 (by decide) (by omega) (by omega) (fun c99 => ?_) (fun c99 => ?_)
                      · skip
                        omega
                      · skip
                        refine g_iconst (pc := 102) X dL_notes_102 ?_
                        refine g_goto (pc := 103) X 107 dL_notes_103 (by decide) ?_
                        refine g_iadd (pc := 107) X dL_notes_107 ?_
                        refine g_istore_n (pc := 108) (lv' := [(2, _), (1, _), (9, _), (8, _), (7, _), (0, _), (3, _), (4, _), (5, _), (6, _)]) X dL_notes_108 (by decide) rfl ?_
                        refine g_iload_n (pc := 109) (pl := 6) X dL_notes_109 rfl ?_
                        refine g_iload (pc := 110) (pl := 4) X dL_notes_110 rfl ?_
                        refine g_if_ne (pc := 112) X 130 dL_notes_112 (by decide) (by omega) (fun c112 => ?_) (fun c112 => ?_)
                        · skip
                          refine g_iconst (pc := 130) X dL_notes_130 ?_
                          refine g_iadd (pc := 131) X dL_notes_131 ?_
                          refine g_istore_n (pc := 132) (lv' := [(3, _), (2, _), (1, _), (9, _), (8, _), (7, _), (0, _), (4, _), (5, _), (6, _)]) X dL_notes_132 (by decide) rfl ?_
                          refine g_iload (pc := 133) (pl := 5) X dL_notes_133 rfl ?_
                          refine g_iconst (pc := 135) X dL_notes_135 ?_
                          refine g_icmp_ne (pc := 136) X 143 dL_notes_136 (by decide) (by omega) (by omega) (fun c136 => ?_) (fun c136 => ?_)
                          · skip
                            omega
                          · skip
                            refine g_iconst (pc := 139) X dL_notes_139 ?_
                            refine g_goto (pc := 140) X 144 dL_notes_140 (by decide) ?_
                            refine g_aload_n (pc := 144) (pl := 6) X dL_notes_144 rfl ?_
                            refine g_iload (pc := 145) (pl := 9) X dL_notes_145 rfl ?_
                            refine g_bipush (pc := 147) X dL_notes_147 (by decide +kernel) ?_
                            refine gVi (pc := 149) (n2 := 0) (k2 := 0) X cs_L_notes_15 (c_X8_of (zl K) D base x lo m sa sl st ss g n f i 6 hq hlo hI (by omega) (by omega)) rfl hO (by omega) hA rfl ⟨Nat.le_of_ble_eq_true rfl, Nat.le_of_ble_eq_true rfl⟩ dL_notes_149 (Nat.le_of_ble_eq_true rfl) rfl rfl (fun v149 H7 hp149 hs149 => ?_)
                            obtain ⟨hv, hA1, hF1⟩ := hp149
                            subst hv
                            replace hF := hF.trans hF1
                            replace hA := hA1
                            replace hO := hA.1
                            clear hA1 hF1 hs149
                            refine g_if_lt (pc := 152) X 159 dL_notes_152 (by decide) (by omega) (fun c152 => ?_) (fun c152 => ?_)
                            · skip
                              omega
                            · skip
                              refine g_iconst (pc := 155) X dL_notes_155 ?_
                              refine g_goto (pc := 156) X 160 dL_notes_156 (by decide) ?_
                              refine g_icmp_ne (pc := 160) X 221 dL_notes_160 (by decide) (by omega) (by omega) (fun c160 => ?_) (fun c160 => ?_)
                              · skip
                                omega
                              · skip
                                refine g_iload (pc := 163) (pl := 4) X dL_notes_163 rfl ?_
                                refine g_bipush (pc := 165) X dL_notes_165 (by decide +kernel) ?_
                                refine g_icmp_ne (pc := 167) X 174 dL_notes_167 (by decide) (by omega) (by omega) (fun c167 => ?_) (fun c167 => ?_)
                                · skip
                                  omega
                                · skip
                                  refine g_iconst (pc := 170) X dL_notes_170 ?_
                                  refine g_goto (pc := 171) X 175 dL_notes_171 (by decide) ?_
                                  refine g_iload (pc := 175) (pl := 3) X dL_notes_175 rfl ?_
                                  refine g_bipush (pc := 177) X dL_notes_177 (by decide +kernel) ?_
                                  refine g_icmp_ne (pc := 179) X 186 dL_notes_179 (by decide) (by omega) (by omega) (fun c179 => ?_) (fun c179 => ?_)
                                  · skip
                                    omega
                                  · skip
                                    refine g_iconst (pc := 182) X dL_notes_182 ?_
                                    refine g_goto (pc := 183) X 187 dL_notes_183 (by decide) ?_
                                    refine g_icmp_ne (pc := 187) X 221 dL_notes_187 (by decide) (by omega) (by omega) (fun c187 => ?_) (fun c187 => ?_)
                                    · skip
                                      omega
                                    · skip
                                      refine g_aload_n (pc := 190) (pl := 6) X dL_notes_190 rfl ?_
                                      refine g_iload (pc := 191) (pl := 9) X dL_notes_191 rfl ?_
                                      refine g_bipush (pc := 193) X dL_notes_193 (by decide +kernel) ?_
                                      refine gVi (pc := 195) (n2 := 0) (k2 := 0) X cs_L_notes_15 (c_X8_of (zl K) D base x lo m sa sl st ss g n f i 7 hq hlo hI (by omega) (by omega)) rfl hO (by omega) hA rfl ⟨Nat.le_of_ble_eq_true rfl, Nat.le_of_ble_eq_true rfl⟩ dL_notes_195 (Nat.le_of_ble_eq_true rfl) rfl rfl (fun v195 H8 hp195 hs195 => ?_)
                                      obtain ⟨hv, hA1, hF1⟩ := hp195
                                      subst hv
                                      replace hF := hF.trans hF1
                                      replace hA := hA1
                                      replace hO := hA.1
                                      clear hA1 hF1 hs195
                                      refine g_if_lt (pc := 198) X 221 dL_notes_198 (by decide) (by omega) (fun c198 => ?_) (fun c198 => ?_)
                                      · skip
                                        omega
                                      · skip
                                        refine g_aload_n (pc := 201) (pl := 6) X dL_notes_201 rfl ?_
                                        refine g_iload (pc := 202) (pl := 9) X dL_notes_202 rfl ?_
                                        refine g_bipush (pc := 204) X dL_notes_204 (by decide +kernel) ?_
                                        refine gVi (pc := 206) (n2 := 0) (k2 := 0) X cs_L_notes_15 (c_X8_of (zl K) D base x lo m sa sl st ss g n f i 7 hq hlo hI (by omega) (by omega)) rfl hO (by omega) hA rfl ⟨Nat.le_of_ble_eq_true rfl, Nat.le_of_ble_eq_true rfl⟩ dL_notes_206 (Nat.le_of_ble_eq_true rfl) rfl rfl (fun v206 H9 hp206 hs206 => ?_)
                                        obtain ⟨hv, hA1, hF1⟩ := hp206
                                        subst hv
                                        replace hF := hF.trans hF1
                                        replace hA := hA1
                                        replace hO := hA.1
                                        clear hA1 hF1 hs206
                                        refine g_aload_n (pc := 209) (pl := 6) X dL_notes_209 rfl ?_
                                        refine g_iconst (pc := 210) X dL_notes_210 ?_
                                        refine gVi (pc := 211) (n2 := 0) (k2 := 0) X cs_L_notes_9 (c_X8_count (zl K) D base x lo m sa sl st ss g n f 1 hq hlo hI (by omega)) rfl hO (by omega) hA rfl ⟨Nat.le_of_ble_eq_true rfl, Nat.le_of_ble_eq_true rfl⟩ dL_notes_211 (Nat.le_of_ble_eq_true rfl) rfl rfl (fun v211 H10 hp211 hs211 => ?_)
                                        obtain ⟨hv, hA1, hF1⟩ := hp211
                                        rw [ct_1] at hv
                                        subst hv
                                        replace hF := hF.trans hF1
                                        replace hA := hA1
                                        replace hO := hA.1
                                        clear hA1 hF1 hs211
                                        refine g_icmp_ge (pc := 214) X 221 dL_notes_214 (by decide) (by omega) (by omega) (fun c214 => ?_) (fun c214 => ?_)
                                        · skip
                                          omega
                                        · skip
                                          refine g_iconst (pc := 217) X dL_notes_217 ?_
                                          refine g_goto (pc := 218) X 222 dL_notes_218 (by decide) ?_
                                          refine g_istore (pc := 222) (lv' := [(5, _), (3, _), (2, _), (1, _), (9, _), (8, _), (7, _), (0, _), (4, _), (6, _)]) X dL_notes_222 (by decide) rfl ?_
                                          refine g_iload (pc := 224) (pl := 6) X dL_notes_224 rfl ?_
                                          refine g_if_ne (pc := 226) X 411 dL_notes_226 (by decide) (by omega) (fun c226 => ?_) (fun c226 => ?_)
                                          · skip
                                            refine g_iload (pc := 411) (pl := 6) X dL_notes_411 rfl ?_
                                            refine g_iconst (pc := 413) X dL_notes_413 ?_
                                            refine g_icmp_ne (pc := 414) X 508 dL_notes_414 (by decide) (by omega) (by omega) (fun c414 => ?_) (fun c414 => ?_)
                                            · skip
                                              refine g_iload (pc := 508) (pl := 0) X dL_notes_508 rfl ?_
                                              refine g_if_eq (pc := 510) X 558 dL_notes_510 (by decide) (by omega) (fun c510 => ?_) (fun c510 => ?_)
                                              · skip
                                                exact absurd c510 (by decide)
                                              · skip
                                                refine g_iload (pc := 513) (pl := 5) X dL_notes_513 rfl ?_
                                                refine g_aload_n (pc := 515) (pl := 7) X dL_notes_515 rfl ?_
                                                refine g_aload_n (pc := 516) (pl := 7) X dL_notes_516 rfl ?_
                                                refine g_iload (pc := 517) (pl := 9) X dL_notes_517 rfl ?_
                                                refine g_bipush (pc := 519) X dL_notes_519 (by decide +kernel) ?_
                                                refine gVi (pc := 521) (n2 := 0) (k2 := 0) X cs_L_notes_15 (c_X8_of (zl K) D base x lo m sa sl st ss g n f i 6 hq hlo hI (by omega) (by omega)) rfl hO (by omega) hA rfl ⟨Nat.le_of_ble_eq_true rfl, Nat.le_of_ble_eq_true rfl⟩ dL_notes_521 (Nat.le_of_ble_eq_true rfl) rfl rfl (fun v521 H11 hp521 hs521 => ?_)
                                                obtain ⟨hv, hA1, hF1⟩ := hp521
                                                subst hv
                                                replace hF := hF.trans hF1
                                                replace hA := hA1
                                                replace hO := hA.1
                                                clear hA1 hF1 hs521
                                                refine g_iconst (pc := 524) X dL_notes_524 ?_
                                                refine gVi (pc := 525) (n2 := 0) (k2 := 0) X cs_L_notes_15 (c_X8_of (zl K) D base x lo m sa sl st ss g n f (ofR g i 6) 1 hq hlo hI (by omega) (by omega)) rfl hO (by omega) hA rfl ⟨Nat.le_of_ble_eq_true rfl, Nat.le_of_ble_eq_true rfl⟩ dL_notes_525 (Nat.le_of_ble_eq_true rfl) rfl rfl (fun v525 H12 hp525 hs525 => ?_)
                                                obtain ⟨hv, hA1, hF1⟩ := hp525
                                                subst hv
                                                replace hF := hF.trans hF1
                                                replace hA := hA1
                                                replace hO := hA.1
                                                clear hA1 hF1 hs525
                                                refine g_icmp_ne (pc := 528) X 558 dL_notes_528 (by decide) (by omega) (by omega) (fun c528 => ?_) (fun c528 => ?_)
                                                · skip
                                                  omega
                                                · skip
                                                  refine g_aload_n (pc := 531) (pl := 7) X dL_notes_531 rfl ?_
                                                  refine g_iload (pc := 532) (pl := 9) X dL_notes_532 rfl ?_
                                                  refine g_bipush (pc := 534) X dL_notes_534 (by decide +kernel) ?_
                                                  refine gVi (pc := 536) (n2 := 0) (k2 := 0) X cs_L_notes_15 (c_X8_of (zl K) D base x lo m sa sl st ss g n f i 8 hq hlo hI (by omega) (by omega)) rfl hO (by omega) hA rfl ⟨Nat.le_of_ble_eq_true rfl, Nat.le_of_ble_eq_true rfl⟩ dL_notes_536 (Nat.le_of_ble_eq_true rfl) rfl rfl (fun v536 H13 hp536 hs536 => ?_)
                                                  obtain ⟨hv, hA1, hF1⟩ := hp536
                                                  subst hv
                                                  replace hF := hF.trans hF1
                                                  replace hA := hA1
                                                  replace hO := hA.1
                                                  clear hA1 hF1 hs536
                                                  refine g_if_le (pc := 539) X 558 dL_notes_539 (by decide) (by omega) (fun c539 => ?_) (fun c539 => ?_)
                                                  · skip
                                                    omega
                                                  · skip
                                                    refine g_aload_n (pc := 542) (pl := 7) X dL_notes_542 rfl ?_
                                                    refine g_iload (pc := 543) (pl := 9) X dL_notes_543 rfl ?_
                                                    refine g_iconst (pc := 545) X dL_notes_545 ?_
                                                    refine gVi (pc := 546) (n2 := 0) (k2 := 0) X cs_L_notes_19 (c_X8_could (zl K) D base x lo m sa sl st ss g n f i 0 hq hlo hI (by omega) (by omega)) rfl hO (by omega) hA rfl ⟨Nat.le_of_ble_eq_true rfl, Nat.le_of_ble_eq_true rfl⟩ dL_notes_546 (Nat.le_of_ble_eq_true rfl) rfl rfl (fun v546 H14 hp546 hs546 => ?_)
                                                    obtain ⟨hv, hA1, hF1⟩ := hp546
                                                    subst hv
                                                    replace hF := hF.trans hF1
                                                    replace hA := hA1
                                                    replace hO := hA.1
                                                    clear hA1 hF1 hs546
                                                    refine g_bipush (pc := 549) X dL_notes_549 (by decide +kernel) ?_
                                                    refine g_icmp_ne (pc := 551) X 558 dL_notes_551 (by decide) (by omega) (by omega) (fun c551 => ?_) (fun c551 => ?_)
                                                    · skip
                                                      omega
                                                    · skip
                                                      refine g_iconst (pc := 554) X dL_notes_554 ?_
                                                      refine g_goto (pc := 555) X 559 dL_notes_555 (by decide) ?_
                                                      refine g_istore (pc := 559) (lv' := [(5, _), (3, _), (2, _), (1, _), (9, _), (8, _), (7, _), (0, _), (4, _), (6, _)]) X dL_notes_559 (by decide) rfl ?_
                                                      refine g_iload (pc := 561) (pl := 0) X dL_notes_561 rfl ?_
                                                      refine g_if_eq (pc := 563) X 621 dL_notes_563 (by decide) (by omega) (fun c563 => ?_) (fun c563 => ?_)
                                                      · skip
                                                        exact absurd c563 (by decide)
                                                      · skip
                                                        refine g_iload (pc := 566) (pl := 6) X dL_notes_566 rfl ?_
                                                        refine g_iconst (pc := 568) X dL_notes_568 ?_
                                                        refine g_icmp_eq (pc := 569) X 617 dL_notes_569 (by decide) (by omega) (by omega) (fun c569 => ?_) (fun c569 => ?_)
                                                        · skip
                                                          refine g_iconst (pc := 617) X dL_notes_617 ?_
                                                          refine g_goto (pc := 618) X 622 dL_notes_618 (by decide) ?_
                                                          refine g_istore (pc := 622) (lv' := [(5, _), (3, _), (2, _), (1, _), (9, _), (8, _), (7, _), (0, _), (4, _), (6, _)]) X dL_notes_622 (by decide) rfl ?_
                                                          refine g_iinc (pc := 624) (pl := 9) (x := i) (lv' := [(6, _), (5, _), (3, _), (2, _), (1, _), (9, _), (8, _), (7, _), (0, _), (4, _)]) X dL_notes_624 rfl (by decide) rfl ?_
                                                          refine g_goto (pc := 627) X 39 dL_notes_627 (by decide) ?_
                                                          refine G.pick [8, 4, 3, 2, 9, 1, 0] (lv' := [(0, _), (1, _), (2, _), (3, _), (4, _), (5, _), (6, _)]) rfl ?_
                                                          exact ih39 (i + 1) (o + 0) (r + 1) (t + 0) H14 (by omega) (by omega) (cn_no (P := fun n => decide (stt g n = 1)) ho (by omega) (by exact fun z => absurd (of_decide_eq_true z) (by omega))) (cn_yes (P := fun n => decide (stt g n = 2)) hr (by omega) (by exact decide_eq_true (by omega))) (cn_no (P := fun n => decide (1 < ntP g n)) ht (by omega) (by exact fun z => absurd (of_decide_eq_true z) (by omega))) hA hF
                                                        · skip
                                                          omega
                                            · skip
                                              omega
                                          · skip
                                            omega
                        · skip
                          omega
                    · skip
                      omega
                  · skip
                    have s12 : ¬ ofR g i 2 = -6 := by omega
                    clear s4
                    refine g_iload_n (pc := 81) (pl := 4) X dL_notes_81 rfl ?_
                    refine g_iload (pc := 82) (pl := 2) X dL_notes_82 rfl ?_
                    refine g_iconst (pc := 84) X dL_notes_84 ?_
                    refine g_icmp_ne (pc := 85) X 92 dL_notes_85 (by decide) (by omega) (by omega) (fun c85 => ?_) (fun c85 => ?_)
                    · skip
                      refine g_iconst (pc := 92) X dL_notes_92 ?_
                      refine g_iadd (pc := 93) X dL_notes_93 ?_
                      refine g_istore_n (pc := 94) (lv' := [(1, _), (9, _), (8, _), (7, _), (0, _), (2, _), (3, _), (4, _), (5, _), (6, _)]) X dL_notes_94 (by decide) rfl ?_
                      refine g_iload_n (pc := 95) (pl := 5) X dL_notes_95 rfl ?_
                      refine g_iload (pc := 96) (pl := 3) X dL_notes_96 rfl ?_
                      refine g_iconst (pc := 98) X dL_notes_98 ?_
                      refine g_icmp_ne (pc := 99) X 106 dL_notes_99 (by decide) (by omega) (by omega) (fun c99 => ?_) (fun c99 => ?_)
                      · skip
                        omega
                      · skip
                        refine g_iconst (pc := 102) X dL_notes_102 ?_
                        refine g_goto (pc := 103) X 107 dL_notes_103 (by decide) ?_
                        refine g_iadd (pc := 107) X dL_notes_107 ?_
                        refine g_istore_n (pc := 108) (lv' := [(2, _), (1, _), (9, _), (8, _), (7, _), (0, _), (3, _), (4, _), (5, _), (6, _)]) X dL_notes_108 (by decide) rfl ?_
                        refine g_iload_n (pc := 109) (pl := 6) X dL_notes_109 rfl ?_
                        refine g_iload (pc := 110) (pl := 4) X dL_notes_110 rfl ?_
                        refine g_if_ne (pc := 112) X 130 dL_notes_112 (by decide) (by omega) (fun c112 => ?_) (fun c112 => ?_)
                        · skip
                          refine g_iconst (pc := 130) X dL_notes_130 ?_
                          refine g_iadd (pc := 131) X dL_notes_131 ?_
                          refine g_istore_n (pc := 132) (lv' := [(3, _), (2, _), (1, _), (9, _), (8, _), (7, _), (0, _), (4, _), (5, _), (6, _)]) X dL_notes_132 (by decide) rfl ?_
                          refine g_iload (pc := 133) (pl := 5) X dL_notes_133 rfl ?_
                          refine g_iconst (pc := 135) X dL_notes_135 ?_
                          refine g_icmp_ne (pc := 136) X 143 dL_notes_136 (by decide) (by omega) (by omega) (fun c136 => ?_) (fun c136 => ?_)
                          · skip
                            omega
                          · skip
                            refine g_iconst (pc := 139) X dL_notes_139 ?_
                            refine g_goto (pc := 140) X 144 dL_notes_140 (by decide) ?_
                            refine g_aload_n (pc := 144) (pl := 6) X dL_notes_144 rfl ?_
                            refine g_iload (pc := 145) (pl := 9) X dL_notes_145 rfl ?_
                            refine g_bipush (pc := 147) X dL_notes_147 (by decide +kernel) ?_
                            refine gVi (pc := 149) (n2 := 0) (k2 := 0) X cs_L_notes_15 (c_X8_of (zl K) D base x lo m sa sl st ss g n f i 6 hq hlo hI (by omega) (by omega)) rfl hO (by omega) hA rfl ⟨Nat.le_of_ble_eq_true rfl, Nat.le_of_ble_eq_true rfl⟩ dL_notes_149 (Nat.le_of_ble_eq_true rfl) rfl rfl (fun v149 H7 hp149 hs149 => ?_)
                            obtain ⟨hv, hA1, hF1⟩ := hp149
                            subst hv
                            replace hF := hF.trans hF1
                            replace hA := hA1
                            replace hO := hA.1
                            clear hA1 hF1 hs149
                            refine g_if_lt (pc := 152) X 159 dL_notes_152 (by decide) (by omega) (fun c152 => ?_) (fun c152 => ?_)
                            · skip
                              omega
                            · skip
                              refine g_iconst (pc := 155) X dL_notes_155 ?_
                              refine g_goto (pc := 156) X 160 dL_notes_156 (by decide) ?_
                              refine g_icmp_ne (pc := 160) X 221 dL_notes_160 (by decide) (by omega) (by omega) (fun c160 => ?_) (fun c160 => ?_)
                              · skip
                                omega
                              · skip
                                refine g_iload (pc := 163) (pl := 4) X dL_notes_163 rfl ?_
                                refine g_bipush (pc := 165) X dL_notes_165 (by decide +kernel) ?_
                                refine g_icmp_ne (pc := 167) X 174 dL_notes_167 (by decide) (by omega) (by omega) (fun c167 => ?_) (fun c167 => ?_)
                                · skip
                                  refine g_iconst (pc := 174) X dL_notes_174 ?_
                                  refine g_iload (pc := 175) (pl := 3) X dL_notes_175 rfl ?_
                                  refine g_bipush (pc := 177) X dL_notes_177 (by decide +kernel) ?_
                                  refine g_icmp_ne (pc := 179) X 186 dL_notes_179 (by decide) (by omega) (by omega) (fun c179 => ?_) (fun c179 => ?_)
                                  · skip
                                    refine g_iconst (pc := 186) X dL_notes_186 ?_
                                    refine g_icmp_ne (pc := 187) X 221 dL_notes_187 (by decide) (by omega) (by omega) (fun c187 => ?_) (fun c187 => ?_)
                                    · skip
                                      omega
                                    · skip
                                      refine g_aload_n (pc := 190) (pl := 6) X dL_notes_190 rfl ?_
                                      refine g_iload (pc := 191) (pl := 9) X dL_notes_191 rfl ?_
                                      refine g_bipush (pc := 193) X dL_notes_193 (by decide +kernel) ?_
                                      refine gVi (pc := 195) (n2 := 0) (k2 := 0) X cs_L_notes_15 (c_X8_of (zl K) D base x lo m sa sl st ss g n f i 7 hq hlo hI (by omega) (by omega)) rfl hO (by omega) hA rfl ⟨Nat.le_of_ble_eq_true rfl, Nat.le_of_ble_eq_true rfl⟩ dL_notes_195 (Nat.le_of_ble_eq_true rfl) rfl rfl (fun v195 H8 hp195 hs195 => ?_)
                                      obtain ⟨hv, hA1, hF1⟩ := hp195
                                      subst hv
                                      replace hF := hF.trans hF1
                                      replace hA := hA1
                                      replace hO := hA.1
                                      clear hA1 hF1 hs195
                                      refine g_if_lt (pc := 198) X 221 dL_notes_198 (by decide) (by omega) (fun c198 => ?_) (fun c198 => ?_)
                                      · skip
                                        omega
                                      · skip
                                        refine g_aload_n (pc := 201) (pl := 6) X dL_notes_201 rfl ?_
                                        refine g_iload (pc := 202) (pl := 9) X dL_notes_202 rfl ?_
                                        refine g_bipush (pc := 204) X dL_notes_204 (by decide +kernel) ?_
                                        refine gVi (pc := 206) (n2 := 0) (k2 := 0) X cs_L_notes_15 (c_X8_of (zl K) D base x lo m sa sl st ss g n f i 7 hq hlo hI (by omega) (by omega)) rfl hO (by omega) hA rfl ⟨Nat.le_of_ble_eq_true rfl, Nat.le_of_ble_eq_true rfl⟩ dL_notes_206 (Nat.le_of_ble_eq_true rfl) rfl rfl (fun v206 H9 hp206 hs206 => ?_)
                                        obtain ⟨hv, hA1, hF1⟩ := hp206
                                        subst hv
                                        replace hF := hF.trans hF1
                                        replace hA := hA1
                                        replace hO := hA.1
                                        clear hA1 hF1 hs206
                                        refine g_aload_n (pc := 209) (pl := 6) X dL_notes_209 rfl ?_
                                        refine g_iconst (pc := 210) X dL_notes_210 ?_
                                        refine gVi (pc := 211) (n2 := 0) (k2 := 0) X cs_L_notes_9 (c_X8_count (zl K) D base x lo m sa sl st ss g n f 1 hq hlo hI (by omega)) rfl hO (by omega) hA rfl ⟨Nat.le_of_ble_eq_true rfl, Nat.le_of_ble_eq_true rfl⟩ dL_notes_211 (Nat.le_of_ble_eq_true rfl) rfl rfl (fun v211 H10 hp211 hs211 => ?_)
                                        obtain ⟨hv, hA1, hF1⟩ := hp211
                                        rw [ct_1] at hv
                                        subst hv
                                        replace hF := hF.trans hF1
                                        replace hA := hA1
                                        replace hO := hA.1
                                        clear hA1 hF1 hs211
                                        refine g_icmp_ge (pc := 214) X 221 dL_notes_214 (by decide) (by omega) (by omega) (fun c214 => ?_) (fun c214 => ?_)
                                        · skip
                                          omega
                                        · skip
                                          refine g_iconst (pc := 217) X dL_notes_217 ?_
                                          refine g_goto (pc := 218) X 222 dL_notes_218 (by decide) ?_
                                          refine g_istore (pc := 222) (lv' := [(5, _), (3, _), (2, _), (1, _), (9, _), (8, _), (7, _), (0, _), (4, _), (6, _)]) X dL_notes_222 (by decide) rfl ?_
                                          refine g_iload (pc := 224) (pl := 6) X dL_notes_224 rfl ?_
                                          refine g_if_ne (pc := 226) X 411 dL_notes_226 (by decide) (by omega) (fun c226 => ?_) (fun c226 => ?_)
                                          · skip
                                            refine g_iload (pc := 411) (pl := 6) X dL_notes_411 rfl ?_
                                            refine g_iconst (pc := 413) X dL_notes_413 ?_
                                            refine g_icmp_ne (pc := 414) X 508 dL_notes_414 (by decide) (by omega) (by omega) (fun c414 => ?_) (fun c414 => ?_)
                                            · skip
                                              refine g_iload (pc := 508) (pl := 0) X dL_notes_508 rfl ?_
                                              refine g_if_eq (pc := 510) X 558 dL_notes_510 (by decide) (by omega) (fun c510 => ?_) (fun c510 => ?_)
                                              · skip
                                                exact absurd c510 (by decide)
                                              · skip
                                                refine g_iload (pc := 513) (pl := 5) X dL_notes_513 rfl ?_
                                                refine g_aload_n (pc := 515) (pl := 7) X dL_notes_515 rfl ?_
                                                refine g_aload_n (pc := 516) (pl := 7) X dL_notes_516 rfl ?_
                                                refine g_iload (pc := 517) (pl := 9) X dL_notes_517 rfl ?_
                                                refine g_bipush (pc := 519) X dL_notes_519 (by decide +kernel) ?_
                                                refine gVi (pc := 521) (n2 := 0) (k2 := 0) X cs_L_notes_15 (c_X8_of (zl K) D base x lo m sa sl st ss g n f i 6 hq hlo hI (by omega) (by omega)) rfl hO (by omega) hA rfl ⟨Nat.le_of_ble_eq_true rfl, Nat.le_of_ble_eq_true rfl⟩ dL_notes_521 (Nat.le_of_ble_eq_true rfl) rfl rfl (fun v521 H11 hp521 hs521 => ?_)
                                                obtain ⟨hv, hA1, hF1⟩ := hp521
                                                subst hv
                                                replace hF := hF.trans hF1
                                                replace hA := hA1
                                                replace hO := hA.1
                                                clear hA1 hF1 hs521
                                                refine g_iconst (pc := 524) X dL_notes_524 ?_
                                                refine gVi (pc := 525) (n2 := 0) (k2 := 0) X cs_L_notes_15 (c_X8_of (zl K) D base x lo m sa sl st ss g n f (ofR g i 6) 1 hq hlo hI (by omega) (by omega)) rfl hO (by omega) hA rfl ⟨Nat.le_of_ble_eq_true rfl, Nat.le_of_ble_eq_true rfl⟩ dL_notes_525 (Nat.le_of_ble_eq_true rfl) rfl rfl (fun v525 H12 hp525 hs525 => ?_)
                                                obtain ⟨hv, hA1, hF1⟩ := hp525
                                                subst hv
                                                replace hF := hF.trans hF1
                                                replace hA := hA1
                                                replace hO := hA.1
                                                clear hA1 hF1 hs525
                                                refine g_icmp_ne (pc := 528) X 558 dL_notes_528 (by decide) (by omega) (by omega) (fun c528 => ?_) (fun c528 => ?_)
                                                · skip
                                                  omega
                                                · skip
                                                  refine g_aload_n (pc := 531) (pl := 7) X dL_notes_531 rfl ?_
                                                  refine g_iload (pc := 532) (pl := 9) X dL_notes_532 rfl ?_
                                                  refine g_bipush (pc := 534) X dL_notes_534 (by decide +kernel) ?_
                                                  refine gVi (pc := 536) (n2 := 0) (k2 := 0) X cs_L_notes_15 (c_X8_of (zl K) D base x lo m sa sl st ss g n f i 8 hq hlo hI (by omega) (by omega)) rfl hO (by omega) hA rfl ⟨Nat.le_of_ble_eq_true rfl, Nat.le_of_ble_eq_true rfl⟩ dL_notes_536 (Nat.le_of_ble_eq_true rfl) rfl rfl (fun v536 H13 hp536 hs536 => ?_)
                                                  obtain ⟨hv, hA1, hF1⟩ := hp536
                                                  subst hv
                                                  replace hF := hF.trans hF1
                                                  replace hA := hA1
                                                  replace hO := hA.1
                                                  clear hA1 hF1 hs536
                                                  refine g_if_le (pc := 539) X 558 dL_notes_539 (by decide) (by omega) (fun c539 => ?_) (fun c539 => ?_)
                                                  · skip
                                                    omega
                                                  · skip
                                                    refine g_aload_n (pc := 542) (pl := 7) X dL_notes_542 rfl ?_
                                                    refine g_iload (pc := 543) (pl := 9) X dL_notes_543 rfl ?_
                                                    refine g_iconst (pc := 545) X dL_notes_545 ?_
                                                    refine gVi (pc := 546) (n2 := 0) (k2 := 0) X cs_L_notes_19 (c_X8_could (zl K) D base x lo m sa sl st ss g n f i 0 hq hlo hI (by omega) (by omega)) rfl hO (by omega) hA rfl ⟨Nat.le_of_ble_eq_true rfl, Nat.le_of_ble_eq_true rfl⟩ dL_notes_546 (Nat.le_of_ble_eq_true rfl) rfl rfl (fun v546 H14 hp546 hs546 => ?_)
                                                    obtain ⟨hv, hA1, hF1⟩ := hp546
                                                    subst hv
                                                    replace hF := hF.trans hF1
                                                    replace hA := hA1
                                                    replace hO := hA.1
                                                    clear hA1 hF1 hs546
                                                    refine g_bipush (pc := 549) X dL_notes_549 (by decide +kernel) ?_
                                                    refine g_icmp_ne (pc := 551) X 558 dL_notes_551 (by decide) (by omega) (by omega) (fun c551 => ?_) (fun c551 => ?_)
                                                    · skip
                                                      omega
                                                    · skip
                                                      refine g_iconst (pc := 554) X dL_notes_554 ?_
                                                      refine g_goto (pc := 555) X 559 dL_notes_555 (by decide) ?_
                                                      refine g_istore (pc := 559) (lv' := [(5, _), (3, _), (2, _), (1, _), (9, _), (8, _), (7, _), (0, _), (4, _), (6, _)]) X dL_notes_559 (by decide) rfl ?_
                                                      refine g_iload (pc := 561) (pl := 0) X dL_notes_561 rfl ?_
                                                      refine g_if_eq (pc := 563) X 621 dL_notes_563 (by decide) (by omega) (fun c563 => ?_) (fun c563 => ?_)
                                                      · skip
                                                        exact absurd c563 (by decide)
                                                      · skip
                                                        refine g_iload (pc := 566) (pl := 6) X dL_notes_566 rfl ?_
                                                        refine g_iconst (pc := 568) X dL_notes_568 ?_
                                                        refine g_icmp_eq (pc := 569) X 617 dL_notes_569 (by decide) (by omega) (by omega) (fun c569 => ?_) (fun c569 => ?_)
                                                        · skip
                                                          refine g_iconst (pc := 617) X dL_notes_617 ?_
                                                          refine g_goto (pc := 618) X 622 dL_notes_618 (by decide) ?_
                                                          refine g_istore (pc := 622) (lv' := [(5, _), (3, _), (2, _), (1, _), (9, _), (8, _), (7, _), (0, _), (4, _), (6, _)]) X dL_notes_622 (by decide) rfl ?_
                                                          refine g_iinc (pc := 624) (pl := 9) (x := i) (lv' := [(6, _), (5, _), (3, _), (2, _), (1, _), (9, _), (8, _), (7, _), (0, _), (4, _)]) X dL_notes_624 rfl (by decide) rfl ?_
                                                          refine g_goto (pc := 627) X 39 dL_notes_627 (by decide) ?_
                                                          refine G.pick [8, 4, 3, 2, 9, 1, 0] (lv' := [(0, _), (1, _), (2, _), (3, _), (4, _), (5, _), (6, _)]) rfl ?_
                                                          exact ih39 (i + 1) (o + 0) (r + 1) (t + 0) H14 (by omega) (by omega) (cn_no (P := fun n => decide (stt g n = 1)) ho (by omega) (by exact fun z => absurd (of_decide_eq_true z) (by omega))) (cn_yes (P := fun n => decide (stt g n = 2)) hr (by omega) (by exact decide_eq_true (by omega))) (cn_no (P := fun n => decide (1 < ntP g n)) ht (by omega) (by exact fun z => absurd (of_decide_eq_true z) (by omega))) hA hF
                                                        · skip
                                                          omega
                                            · skip
                                              omega
                                          · skip
                                            omega
                                  · skip
                                    omega
                                · skip
                                  omega
                        · skip
                          omega
                    · skip
                      omega
      refine G.pick [6, 5, 4, 3, 2, 1, 0] (lv' := [(0, _), (1, _), (2, _), (3, _), (4, _), (5, _), (6, _)]) rfl ?_
      exact hL39 _ 0 0 0 0 H2 (Nat.lt_succ_self _) (by omega) rfl rfl rfl hA hF

theorem cs_L_law_75 : zCI RL wsL_law 75 yX8_init wsX8_init cX8_init 1 rm_L_law rm_X8_init 0 := ⟨_, gL_law_X8_init, Or.inl (by decide +kernel), by decide +kernel, by decide +kernel, rfl, rfl, ⟨by decide +kernel, by decide +kernel, by decide +kernel⟩, ⟨Nat.le_of_ble_eq_true rfl, Nat.le_of_ble_eq_true rfl⟩⟩
theorem cs_L_law_9 : zCV RL wsL_law 9 8 yX8_count wsX8_count cX8_count 2 (some .int) rm_L_law rm_X8_count 1 := ⟨_, _, gL_law_X8_count, rfl, ⟨by decide +kernel, by decide +kernel, by decide +kernel⟩, ⟨Nat.le_of_ble_eq_true rfl, Nat.le_of_ble_eq_true rfl⟩, rfl, rfl⟩
theorem cs_L_law_76 : zCJ RL wsL_law 76 yL_act wsL_act cL_act 8 (some .int) rm_L_law rm_L_act 3 := ⟨_, gL_law_L_act, rfl, ⟨by decide +kernel, by decide +kernel, by decide +kernel⟩, ⟨Nat.le_of_ble_eq_true rfl, Nat.le_of_ble_eq_true rfl⟩⟩
theorem cs_L_law_80 : zCJ RL wsL_law 80 yL_notes wsL_notes cL_notes 11 (some .boolean) rm_L_law rm_L_notes 1 := ⟨_, gL_law_L_notes, rfl, ⟨by decide +kernel, by decide +kernel, by decide +kernel⟩, ⟨Nat.le_of_ble_eq_true rfl, Nat.le_of_ble_eq_true rfl⟩⟩
theorem cs_L_law_84 : zCJ RL wsL_law 84 yL_margin wsL_margin cL_margin 12 (some .boolean) rm_L_law rm_L_margin 1 := ⟨_, gL_law_L_margin, rfl, ⟨by decide +kernel, by decide +kernel, by decide +kernel⟩, ⟨Nat.le_of_ble_eq_true rfl, Nat.le_of_ble_eq_true rfl⟩⟩
/-- what holds between two turns -/
def W27 (D : zD) (x : Nat) (m : Int) (H : Heap) : Prop := ∃ (sa sl : Int → Option Nat) (st ss : Int → Int → Int) (g : Int → Int) (n : Int) (f : Int → Int), AnAt D x (x + 140) m sa sl st ss g n f H ∧ (PInv g ∧ Qn g) ∧ (∀ i : Int, 0 ≤ i → i < m → PInv (st i) ∧ Qn (st i)) ∧ x + 140 ≤ H.size
set_option maxRecDepth 100000 in
set_option maxHeartbeats 4000000 in
theorem law_loop {K : zC} {D : zD} {base : Nat} (X : GX K cL_law RL wsL_law D base rm_L_law 10) {b L : Nat} {xs : Nat → Int32} (hX : va_X b L xs (zs K) (zs K).heap) (hbl : b < (zs K).heap.size) (hbb : b < base) (hL : L ≤ 260) {x : Nat} (hq : base ≤ x) {T : Int} (hT : 0 ≤ T ∧ T ≤ 60) (hend : ∀ (H : Heap) (lv : List (Nat × Value)), G K 600000 7302250 H 155 lv [.int (J 1)]) : ∀ (fu c : Nat) (m : Int) (H : Heap), 61 - c < fu → (c : Int) ≤ T → W27 D x m H → G K (140 + 122 * c) (4796 + 4288 * c) H 32 [(0, .ref b), (1, .ref x), (2, .int (J 1)), (3, .int (J T)), (4, .int (J (c : Int)))] [] := by
  intro fu
  induction fu with
  | zero => intro c m H hm; exact absurd hm (Nat.not_lt_zero _)
  | succ fu ih =>
    intro c m H hm hcT hW
    obtain ⟨sa, sl, st, ss, g, n, f, hA, ⟨hI, hQ⟩, hIs, hls⟩ := hW
    have hO := hA.1
    have hnum := hI.nums
    have hm6 : 0 ≤ m ∧ m ≤ 6 := hA.2.2.2.2.2.2.1.2.2.2.2
    have hc1 : 0 ≤ cst g 1 ∧ cst g 1 ≤ (g 1).toNat := cnt_bd _ _
    refine g_iload (pc := 32) (pl := 4) X dL_law_32 rfl ?_
    refine g_iload_n (pc := 34) (pl := 3) X dL_law_34 rfl ?_
    refine g_icmp_ge (pc := 35) X 154 dL_law_35 (by decide) (by omega) (by omega) (fun c35 => ?_) (fun c35 => ?_)
    · skip
      refine G.widen (n' := 600000) (k' := 7302250) (by omega) (by omega) ?_
      refine g_iload_n (pc := 154) (pl := 2) X dL_law_154 rfl ?_
      exact hend _ _
    · skip
      refine g_iload_n (pc := 38) (pl := 2) X dL_law_38 rfl ?_
      refine g_if_eq (pc := 39) X 154 dL_law_39 (by decide) (by omega) (fun c39 => ?_) (fun c39 => ?_)
      · skip
        exact absurd c39 (by decide)
      · skip
        refine g_aload_n (pc := 42) (pl := 1) X dL_law_42 rfl ?_
        refine g_bipush (pc := 43) X dL_law_43 (by decide +kernel) ?_
        refine gVi (pc := 45) (n2 := 140 + 122 * c + 0) (k2 := 4796 + 4288 * c + 0) X cs_L_law_9 (c_X8_count (zl K) D base x (x + 140) m sa sl st ss g n f 12 hq (Nat.le_refl _) hI (by omega)) rfl hO (by omega) hA rfl ⟨(by show 140 + 122 * c + 0 ≤ 600000; omega), (by show 4796 + 4288 * c + 0 ≤ 7302250; omega)⟩ dL_law_45 (Nat.le_of_ble_eq_true rfl) rfl rfl (fun v45 H1 hp45 hs45 => ?_)
        obtain ⟨hv, hA1, hF1⟩ := hp45
        rw [ct_12] at hv
        subst hv
        replace hls : x + 140 ≤ H1.size := by have := hF1.1; omega
        replace hA := hA1
        replace hO := hA.1
        clear hA1 hF1 hs45
        refine g_istore (pc := 48) (lv' := [(5, _), (0, _), (1, _), (2, _), (3, _), (4, _)]) X dL_law_48 (by decide) rfl ?_
        refine g_aload_n (pc := 50) (pl := 2) X dL_law_50 rfl ?_
        refine g_iconst (pc := 51) X dL_law_51 ?_
        refine gVi (pc := 52) (n2 := 140 + 122 * c + 0 + 0) (k2 := 4796 + 4288 * c + 0 + 0) X cs_L_law_9 (c_X8_count (zl K) D base x (x + 140) m sa sl st ss g n f 0 hq (Nat.le_refl _) hI (by omega)) rfl hO (by omega) hA rfl ⟨(by show 140 + 122 * c + 0 + 0 ≤ 600000; omega), (by show 4796 + 4288 * c + 0 + 0 ≤ 7302250; omega)⟩ dL_law_52 (Nat.le_of_ble_eq_true rfl) rfl rfl (fun v52 H2 hp52 hs52 => ?_)
        obtain ⟨hv, hA1, hF1⟩ := hp52
        rw [ct_0] at hv
        subst hv
        replace hls : x + 140 ≤ H2.size := by have := hF1.1; omega
        replace hA := hA1
        replace hO := hA.1
        clear hA1 hF1 hs52
        refine g_istore (pc := 55) (lv' := [(6, _), (5, _), (0, _), (1, _), (2, _), (3, _), (4, _)]) X dL_law_55 (by decide) rfl ?_
        refine g_aload_n (pc := 57) (pl := 3) X dL_law_57 rfl ?_
        refine g_iconst (pc := 58) X dL_law_58 ?_
        refine gVi (pc := 59) (n2 := 140 + 122 * c + 0 + 0 + 0) (k2 := 4796 + 4288 * c + 0 + 0 + 0) X cs_L_law_9 (c_X8_count (zl K) D base x (x + 140) m sa sl st ss g n f 1 hq (Nat.le_refl _) hI (by omega)) rfl hO (by omega) hA rfl ⟨(by show 140 + 122 * c + 0 + 0 + 0 ≤ 600000; omega), (by show 4796 + 4288 * c + 0 + 0 + 0 ≤ 7302250; omega)⟩ dL_law_59 (Nat.le_of_ble_eq_true rfl) rfl rfl (fun v59 H3 hp59 hs59 => ?_)
        obtain ⟨hv, hA1, hF1⟩ := hp59
        rw [ct_1] at hv
        subst hv
        replace hls : x + 140 ≤ H3.size := by have := hF1.1; omega
        replace hA := hA1
        replace hO := hA.1
        clear hA1 hF1 hs59
        refine g_istore (pc := 62) (lv' := [(7, _), (6, _), (5, _), (0, _), (1, _), (2, _), (3, _), (4, _)]) X dL_law_62 (by decide) rfl ?_
        refine g_aload_n (pc := 64) (pl := 4) X dL_law_64 rfl ?_
        refine g_iconst (pc := 65) X dL_law_65 ?_
        refine gVi (pc := 66) (n2 := 140 + 122 * c + 0 + 0 + 0 + 0) (k2 := 4796 + 4288 * c + 0 + 0 + 0 + 0) X cs_L_law_9 (c_X8_count (zl K) D base x (x + 140) m sa sl st ss g n f 2 hq (Nat.le_refl _) hI (by omega)) rfl hO (by omega) hA rfl ⟨(by show 140 + 122 * c + 0 + 0 + 0 + 0 ≤ 600000; omega), (by show 4796 + 4288 * c + 0 + 0 + 0 + 0 ≤ 7302250; omega)⟩ dL_law_66 (Nat.le_of_ble_eq_true rfl) rfl rfl (fun v66 H4 hp66 hs66 => ?_)
        obtain ⟨hv, hA1, hF1⟩ := hp66
        rw [ct_2] at hv
        subst hv
        replace hls : x + 140 ≤ H4.size := by have := hF1.1; omega
        replace hA := hA1
        replace hO := hA.1
        clear hA1 hF1 hs66
        refine g_istore (pc := 69) (lv' := [(8, _), (7, _), (6, _), (5, _), (0, _), (1, _), (2, _), (3, _), (4, _)]) X dL_law_69 (by decide) rfl ?_
        refine g_aload_n (pc := 71) (pl := 5) X dL_law_71 rfl ?_
        refine g_aload_n (pc := 72) (pl := 4) X dL_law_72 rfl ?_
        refine g_iconst (pc := 73) X dL_law_73 ?_
        refine g_iload (pc := 74) (pl := 8) X dL_law_74 rfl ?_
        refine g_imul (pc := 76) X dL_law_76 ?_
        refine gJXi (pc := 77) (n2 := 140 + 122 * c + 0 + 0 + 0 + 0 + 121) (k2 := 4796 + 4288 * c + 0 + 0 + 0 + 0 + 4272) X hX hbl hbb cs_L_law_76 (c_L_act (zl K) D base b L xs x (x + 140) m sa sl st ss g n f (4 * (c : Int)) hbb hL hq (Nat.le_refl _) hI hQ hIs (by omega)) rfl (by omega) ⟨hA, hls⟩ rfl ⟨(by show 140 + 122 * c + 0 + 0 + 0 + 0 + 121 ≤ 600000; omega), (by show 4796 + 4288 * c + 0 + 0 + 0 + 0 + 4272 ≤ 7302250; omega)⟩ dL_law_77 (Nat.le_of_ble_eq_true rfl) rfl rfl (fun v77 H5 hp77 hs77 => ?_)
        obtain ⟨m2, sa2, st2, g2, hA2, ⟨hI2, hQ2⟩, hIs2, her, hrb, hls2⟩ := hp77
        replace hA := hA2
        replace hO := hA.1
        replace hls := hls2
        clear hA2 hls2 hs77
        refine g_istore (pc := 80) (lv' := [(9, _), (8, _), (7, _), (6, _), (5, _), (0, _), (1, _), (2, _), (3, _), (4, _)]) X dL_law_80 (by decide) rfl ?_
        refine g_iload (pc := 82) (pl := 0) X dL_law_82 rfl ?_
        refine g_if_ge (pc := 84) X 128 dL_law_84 (by decide) (by omega) (fun c84 => ?_) (fun c84 => ?_)
        · skip
          refine g_aload_n (pc := 128) (pl := 6) X dL_law_128 rfl ?_
          refine gJi (pc := 129) (n2 := 140 + 122 * c + 0 + 0 + 0 + 0 + 121 + 0) (k2 := 4796 + 4288 * c + 0 + 0 + 0 + 0 + 4272 + 0) X cs_L_law_80 (c_L_notes (zl K) D base x (x + 140) m2 sa2 sl st2 ss g2 n f hq (Nat.le_refl _) hI2 hQ2) rfl (by omega) hA rfl ⟨(by show 140 + 122 * c + 0 + 0 + 0 + 0 + 121 + 0 ≤ 600000; omega), (by show 4796 + 4288 * c + 0 + 0 + 0 + 0 + 4272 + 0 ≤ 7302250; omega)⟩ dL_law_129 (Nat.le_of_ble_eq_true rfl) rfl rfl (fun v129 H6 hp129 hs129 => ?_)
          obtain ⟨rfl, hA3, hF3⟩ := hp129
          replace hls : x + 140 ≤ H6.size := by have := hF3.1; omega
          replace hA := hA3
          replace hO := hA.1
          clear hA3 hF3 hs129
          refine g_if_eq (pc := 132) X 146 dL_law_132 (by decide) (by omega) (fun c132 => ?_) (fun c132 => ?_)
          · skip
            exact absurd c132 (by decide)
          · skip
            refine g_aload_n (pc := 135) (pl := 6) X dL_law_135 rfl ?_
            refine gJi (pc := 136) (n2 := 140 + 122 * c + 0 + 0 + 0 + 0 + 121 + 0 + 1) (k2 := 4796 + 4288 * c + 0 + 0 + 0 + 0 + 4272 + 0 + 16) X cs_L_law_84 (c_L_margin (zl K) D base x (x + 140) m2 sa2 sl st2 ss g2 n f hq (Nat.le_refl _) hI2) rfl (by omega) hA rfl ⟨(by show 140 + 122 * c + 0 + 0 + 0 + 0 + 121 + 0 + 1 ≤ 600000; omega), (by show 4796 + 4288 * c + 0 + 0 + 0 + 0 + 4272 + 0 + 16 ≤ 7302250; omega)⟩ dL_law_136 (Nat.le_of_ble_eq_true rfl) rfl rfl (fun v136 H7 hp136 hs136 => ?_)
            obtain ⟨rfl, hA3⟩ := hp136
            replace hls : x + 140 ≤ H7.size := by omega
            replace hA := hA3
            clear hA3 hs136
            refine g_if_eq (pc := 139) X 146 dL_law_139 (by decide) (by omega) (fun c139 => ?_) (fun c139 => ?_)
            · skip
              exact absurd c139 (by decide)
            · skip
              refine g_iconst (pc := 142) X dL_law_142 ?_
              refine g_goto (pc := 143) X 147 dL_law_143 (by decide) ?_
              refine g_istore_n (pc := 147) (lv' := [(2, _), (9, _), (8, _), (7, _), (6, _), (5, _), (0, _), (1, _), (3, _), (4, _)]) X dL_law_147 (by decide) rfl ?_
              refine g_iinc (pc := 148) (pl := 9) (x := (c : Int)) (lv' := [(4, _), (2, _), (9, _), (8, _), (7, _), (6, _), (5, _), (0, _), (1, _), (3, _)]) X dL_law_148 rfl (by decide) rfl ?_
              refine g_goto (pc := 151) X 32 dL_law_151 (by decide) ?_
              rw [show (c : Int) + 1 = ((c + 1 : Nat) : Int) by omega]
              refine G.pick [7, 8, 1, 9, 0] (lv' := [(0, _), (1, _), (2, _), (3, _), (4, _)]) rfl ?_
              refine G.widen (n' := 140 + 122 * (c + 1)) (k' := 4796 + 4288 * (c + 1)) (by omega) (by omega) ?_
              exact ih (c + 1) m2 H7 (by omega) (by omega) ⟨sa2, sl, st2, ss, g2, n, f, hA, ⟨hI2, hQ2⟩, hIs2, hls⟩
        · skip
          obtain ⟨e1, e2⟩ := her (by omega)
          have e3 : g2 0 = g 0 := by rw [e2]
          have e4 : g2 1 = g 1 := by rw [e2]
          have e5 : cst g2 1 = cst g 1 := by rw [e2]
          have hnum2 := hI2.nums
          refine g_aload_n (pc := 87) (pl := 6) X dL_law_87 rfl ?_
          refine g_bipush (pc := 88) X dL_law_88 (by decide +kernel) ?_
          refine gVi (pc := 90) (n2 := 140 + 122 * c + 0 + 0 + 0 + 0 + 121 + 0) (k2 := 4796 + 4288 * c + 0 + 0 + 0 + 0 + 4272 + 0) X cs_L_law_9 (c_X8_count (zl K) D base x (x + 140) m2 sa2 sl st2 ss g2 n f 12 hq (Nat.le_refl _) hI2 (by omega)) rfl hO (by omega) hA rfl ⟨(by show 140 + 122 * c + 0 + 0 + 0 + 0 + 121 + 0 ≤ 600000; omega), (by show 4796 + 4288 * c + 0 + 0 + 0 + 0 + 4272 + 0 ≤ 7302250; omega)⟩ dL_law_90 (Nat.le_of_ble_eq_true rfl) rfl rfl (fun v90 H6 hp90 hs90 => ?_)
          obtain ⟨hv, hA1, hF1⟩ := hp90
          rw [ct_12] at hv
          subst hv
          replace hls : x + 140 ≤ H6.size := by have := hF1.1; omega
          replace hA := hA1
          replace hO := hA.1
          clear hA1 hF1 hs90
          refine g_iload (pc := 93) (pl := 4) X dL_law_93 rfl ?_
          refine g_icmp_ne (pc := 95) X 146 dL_law_95 (by decide) (by omega) (by omega) (fun c95 => ?_) (fun c95 => ?_)
          · skip
            omega
          · skip
            refine g_aload_n (pc := 98) (pl := 6) X dL_law_98 rfl ?_
            refine g_iconst (pc := 99) X dL_law_99 ?_
            refine gVi (pc := 100) (n2 := 140 + 122 * c + 0 + 0 + 0 + 0 + 121 + 0 + 0) (k2 := 4796 + 4288 * c + 0 + 0 + 0 + 0 + 4272 + 0 + 0) X cs_L_law_9 (c_X8_count (zl K) D base x (x + 140) m2 sa2 sl st2 ss g2 n f 0 hq (Nat.le_refl _) hI2 (by omega)) rfl hO (by omega) hA rfl ⟨(by show 140 + 122 * c + 0 + 0 + 0 + 0 + 121 + 0 + 0 ≤ 600000; omega), (by show 4796 + 4288 * c + 0 + 0 + 0 + 0 + 4272 + 0 + 0 ≤ 7302250; omega)⟩ dL_law_100 (Nat.le_of_ble_eq_true rfl) rfl rfl (fun v100 H7 hp100 hs100 => ?_)
            obtain ⟨hv, hA1, hF1⟩ := hp100
            rw [ct_0] at hv
            subst hv
            replace hls : x + 140 ≤ H7.size := by have := hF1.1; omega
            replace hA := hA1
            replace hO := hA.1
            clear hA1 hF1 hs100
            refine g_iload (pc := 103) (pl := 3) X dL_law_103 rfl ?_
            refine g_icmp_ne (pc := 105) X 146 dL_law_105 (by decide) (by omega) (by omega) (fun c105 => ?_) (fun c105 => ?_)
            · skip
              omega
            · skip
              refine g_aload_n (pc := 108) (pl := 6) X dL_law_108 rfl ?_
              refine g_iconst (pc := 109) X dL_law_109 ?_
              refine gVi (pc := 110) (n2 := 140 + 122 * c + 0 + 0 + 0 + 0 + 121 + 0 + 0 + 0) (k2 := 4796 + 4288 * c + 0 + 0 + 0 + 0 + 4272 + 0 + 0 + 0) X cs_L_law_9 (c_X8_count (zl K) D base x (x + 140) m2 sa2 sl st2 ss g2 n f 1 hq (Nat.le_refl _) hI2 (by omega)) rfl hO (by omega) hA rfl ⟨(by show 140 + 122 * c + 0 + 0 + 0 + 0 + 121 + 0 + 0 + 0 ≤ 600000; omega), (by show 4796 + 4288 * c + 0 + 0 + 0 + 0 + 4272 + 0 + 0 + 0 ≤ 7302250; omega)⟩ dL_law_110 (Nat.le_of_ble_eq_true rfl) rfl rfl (fun v110 H8 hp110 hs110 => ?_)
              obtain ⟨hv, hA1, hF1⟩ := hp110
              rw [ct_1] at hv
              subst hv
              replace hls : x + 140 ≤ H8.size := by have := hF1.1; omega
              replace hA := hA1
              replace hO := hA.1
              clear hA1 hF1 hs110
              refine g_iload (pc := 113) (pl := 2) X dL_law_113 rfl ?_
              refine g_icmp_ne (pc := 115) X 146 dL_law_115 (by decide) (by omega) (by omega) (fun c115 => ?_) (fun c115 => ?_)
              · skip
                omega
              · skip
                refine g_aload_n (pc := 118) (pl := 6) X dL_law_118 rfl ?_
                refine g_iconst (pc := 119) X dL_law_119 ?_
                refine gVi (pc := 120) (n2 := 140 + 122 * c + 0 + 0 + 0 + 0 + 121 + 0 + 0 + 0 + 0) (k2 := 4796 + 4288 * c + 0 + 0 + 0 + 0 + 4272 + 0 + 0 + 0 + 0) X cs_L_law_9 (c_X8_count (zl K) D base x (x + 140) m2 sa2 sl st2 ss g2 n f 2 hq (Nat.le_refl _) hI2 (by omega)) rfl hO (by omega) hA rfl ⟨(by show 140 + 122 * c + 0 + 0 + 0 + 0 + 121 + 0 + 0 + 0 + 0 ≤ 600000; omega), (by show 4796 + 4288 * c + 0 + 0 + 0 + 0 + 4272 + 0 + 0 + 0 + 0 ≤ 7302250; omega)⟩ dL_law_120 (Nat.le_of_ble_eq_true rfl) rfl rfl (fun v120 H9 hp120 hs120 => ?_)
                obtain ⟨hv, hA1, hF1⟩ := hp120
                rw [ct_2] at hv
                subst hv
                replace hls : x + 140 ≤ H9.size := by have := hF1.1; omega
                replace hA := hA1
                replace hO := hA.1
                clear hA1 hF1 hs120
                refine g_iload (pc := 123) (pl := 1) X dL_law_123 rfl ?_
                refine g_icmp_ne (pc := 125) X 146 dL_law_125 (by decide) (by omega) (by omega) (fun c125 => ?_) (fun c125 => ?_)
                · skip
                  omega
                · skip
                  refine g_aload_n (pc := 128) (pl := 6) X dL_law_128 rfl ?_
                  refine gJi (pc := 129) (n2 := 140 + 122 * c + 0 + 0 + 0 + 0 + 121 + 0 + 0 + 0 + 0 + 0) (k2 := 4796 + 4288 * c + 0 + 0 + 0 + 0 + 4272 + 0 + 0 + 0 + 0 + 0) X cs_L_law_80 (c_L_notes (zl K) D base x (x + 140) m2 sa2 sl st2 ss g2 n f hq (Nat.le_refl _) hI2 hQ2) rfl (by omega) hA rfl ⟨(by show 140 + 122 * c + 0 + 0 + 0 + 0 + 121 + 0 + 0 + 0 + 0 + 0 ≤ 600000; omega), (by show 4796 + 4288 * c + 0 + 0 + 0 + 0 + 4272 + 0 + 0 + 0 + 0 + 0 ≤ 7302250; omega)⟩ dL_law_129 (Nat.le_of_ble_eq_true rfl) rfl rfl (fun v129 H10 hp129 hs129 => ?_)
                  obtain ⟨rfl, hA3, hF3⟩ := hp129
                  replace hls : x + 140 ≤ H10.size := by have := hF3.1; omega
                  replace hA := hA3
                  replace hO := hA.1
                  clear hA3 hF3 hs129
                  refine g_if_eq (pc := 132) X 146 dL_law_132 (by decide) (by omega) (fun c132 => ?_) (fun c132 => ?_)
                  · skip
                    exact absurd c132 (by decide)
                  · skip
                    refine g_aload_n (pc := 135) (pl := 6) X dL_law_135 rfl ?_
                    refine gJi (pc := 136) (n2 := 140 + 122 * c + 0 + 0 + 0 + 0 + 121 + 0 + 0 + 0 + 0 + 0 + 1) (k2 := 4796 + 4288 * c + 0 + 0 + 0 + 0 + 4272 + 0 + 0 + 0 + 0 + 0 + 16) X cs_L_law_84 (c_L_margin (zl K) D base x (x + 140) m2 sa2 sl st2 ss g2 n f hq (Nat.le_refl _) hI2) rfl (by omega) hA rfl ⟨(by show 140 + 122 * c + 0 + 0 + 0 + 0 + 121 + 0 + 0 + 0 + 0 + 0 + 1 ≤ 600000; omega), (by show 4796 + 4288 * c + 0 + 0 + 0 + 0 + 4272 + 0 + 0 + 0 + 0 + 0 + 16 ≤ 7302250; omega)⟩ dL_law_136 (Nat.le_of_ble_eq_true rfl) rfl rfl (fun v136 H11 hp136 hs136 => ?_)
                    obtain ⟨rfl, hA3⟩ := hp136
                    replace hls : x + 140 ≤ H11.size := by omega
                    replace hA := hA3
                    clear hA3 hs136
                    refine g_if_eq (pc := 139) X 146 dL_law_139 (by decide) (by omega) (fun c139 => ?_) (fun c139 => ?_)
                    · skip
                      exact absurd c139 (by decide)
                    · skip
                      refine g_iconst (pc := 142) X dL_law_142 ?_
                      refine g_goto (pc := 143) X 147 dL_law_143 (by decide) ?_
                      refine g_istore_n (pc := 147) (lv' := [(2, _), (9, _), (8, _), (7, _), (6, _), (5, _), (0, _), (1, _), (3, _), (4, _)]) X dL_law_147 (by decide) rfl ?_
                      refine g_iinc (pc := 148) (pl := 9) (x := (c : Int)) (lv' := [(4, _), (2, _), (9, _), (8, _), (7, _), (6, _), (5, _), (0, _), (1, _), (3, _)]) X dL_law_148 rfl (by decide) rfl ?_
                      refine g_goto (pc := 151) X 32 dL_law_151 (by decide) ?_
                      rw [show (c : Int) + 1 = ((c + 1 : Nat) : Int) by omega]
                      refine G.pick [7, 8, 1, 9, 0] (lv' := [(0, _), (1, _), (2, _), (3, _), (4, _)]) rfl ?_
                      refine G.widen (n' := 140 + 122 * (c + 1)) (k' := 4796 + 4288 * (c + 1)) (by omega) (by omega) ?_
                      exact ih (c + 1) m2 H11 (by omega) (by omega) ⟨sa2, sl, st2, ss, g2, n, f, hA, ⟨hI2, hQ2⟩, hIs2, hls⟩
set_option maxRecDepth 100000 in
set_option maxHeartbeats 4000000 in
theorem law_go {K : zC} {D : zD} {base : Nat} (X : GX K cL_law RL wsL_law D base rm_L_law 10) {b L : Nat} {xs : Nat → Int32} (hX : va_X b L xs (zs K) (zs K).heap) (hbl : b < (zs K).heap.size) (hbb : b < base) (hL : L ≤ 260) {x : Nat} (hq : base ≤ x) (hend : ∀ (H : Heap) (lv : List (Nat × Value)), G K 600000 7302250 H 155 lv [.int (J 1)]) {H : Heap} (hsz : H.size = x) : G K 0 0 H 0 [(0, .ref b)] [] := by
  refine g_new (pc := 0) (ci := 8) (C := RX8) (T := TX8) (N := 7) (tys := tyX8) (fs := [.null, .null, .null, .null, .null, .null, .null]) (n2 := 1) (k2 := 7) X rfl (by decide +kernel) tyX8_ok (by decide +kernel) (by decide +kernel) (by decide +kernel) (by decide +kernel) (Nat.le_of_ble_eq_true rfl) (Nat.le_of_ble_eq_true rfl) dL_law_0 rfl rfl (fun H1 hz1 hNew hon1 => ?_)
  rw [hsz] at hNew ⊢
  have hf1 : Fr (Iv 0 0) 1 H H1 := Fr.new hz1 hon1
  replace hsz : H1.size = x + 1 := by have e := hf1.1; omega
  refine g_dup (pc := 3) X dL_law_3 rfl ?_
  refine gIv (pc := 4) (n2 := 140) (k2 := 4796) X cs_L_law_75 (c_X8_init (zl K) D base x hq) rfl (by omega) ⟨hNew, hsz⟩ rfl ⟨(Nat.le_of_ble_eq_true rfl), (Nat.le_of_ble_eq_true rfl)⟩ dL_law_4 (Nat.le_of_ble_eq_true rfl) rfl rfl (fun H2 hp4 hs4 => ?_)
  obtain ⟨hAn, hfa⟩ := hp4
  replace hsz : H2.size = x + 140 := by have e := hfa.1; omega
  have hW : W27 D x 0 H2 := ⟨_, _, _, _, _, _, _, hAn, ⟨PInv.first, Qn.first⟩, fun i a b => by omega, by omega⟩
  refine g_astore_n (pc := 7) (lv' := [(1, _), (0, _)]) X dL_law_7 (by decide) rfl ?_
  refine g_iconst (pc := 8) X dL_law_8 ?_
  refine g_istore_n (pc := 9) (lv' := [(2, _), (1, _), (0, _)]) X dL_law_9 (by decide) rfl ?_
  have hgo : ∀ T : Int, 0 ≤ T ∧ T ≤ 60 → G K 140 4796 H2 28 [(2, .int (J 1)), (1, .ref x), (0, .ref b)] [.int (J T)] := fun T hT => by
    refine g_istore_n (pc := 28) (lv' := [(3, _), (2, _), (1, _), (0, _)]) X dL_law_28 (by decide) rfl ?_
    refine g_iconst (pc := 29) X dL_law_29 ?_
    refine g_istore (pc := 30) (lv' := [(4, _), (3, _), (2, _), (1, _), (0, _)]) X dL_law_30 (by decide) rfl ?_
    refine G.pick [4, 3, 2, 1, 0] (lv' := [(0, _), (1, _), (2, _), (3, _), (4, _)]) rfl ?_
    exact law_loop X hX hbl hbb hL hq hT hend 62 0 0 H2 (by decide) hT.1 hW
  have hdiv : J (L : Int) / J 4 = J ((L : Int) / 4) := J_div (by omega) (by omega)
  refine g_aload_n (pc := 10) (pl := 2) X dL_law_10 rfl ?_
  refine g_slen (pc := 11) X hX hbl hbb dL_law_11 ?_
  refine g_iconst (pc := 12) X dL_law_12 ?_
  refine g_idiv (pc := 13) (z := J ((L : Int) / 4)) X dL_law_13 (by decide) hdiv ?_
  refine g_bipush (pc := 14) X dL_law_14 (by decide +kernel) ?_
  refine g_icmp_le (pc := 16) X 24 dL_law_16 (by decide) (by omega) (by omega) (fun c16 => ?_) (fun c16 => ?_)
  · refine g_aload_n (pc := 24) (pl := 2) X dL_law_24 rfl ?_
    refine g_slen (pc := 25) X hX hbl hbb dL_law_25 ?_
    refine g_iconst (pc := 26) X dL_law_26 ?_
    refine g_idiv (pc := 27) (z := J ((L : Int) / 4)) X dL_law_27 (by decide) hdiv ?_
    exact hgo _ (by omega)
  · refine g_bipush (pc := 19) X dL_law_19 (by decide +kernel) ?_
    refine g_goto (pc := 21) X 28 dL_law_21 (by decide) ?_
    exact hgo 60 (by omega)

abbrev rm_X3_readOrder : Room := { frames := 2, cells := 0, slots := 0, locals := 43 }
theorem zF_X3_readOrder_20 : zF RX3 wsX3_readOrder 3 0 20 := ⟨RX3, TX3, 4, rfl, by decide +kernel, by decide, by decide +kernel⟩
theorem cs_X3_readOrder_38 : zCV RX3 wsX3_readOrder 38 6 yX6_item wsX6_item cX6_item 2 (some .int) rm_X3_readOrder rm_X6_item 1 := ⟨_, _, gX3_readOrder_X6_item, rfl, ⟨by decide +kernel, by decide +kernel, by decide +kernel⟩, ⟨Nat.le_of_ble_eq_true rfl, Nat.le_of_ble_eq_true rfl⟩, rfl, rfl⟩
theorem zW_X3_readOrder_42 : zW RX3 wsX3_readOrder 3 1 42 false (tyX3 1) := ⟨RX3, TX3, 4, tyX3, rfl, by decide +kernel, by decide, by decide +kernel, tyX3_ok, nmX3, rfl, rfl, rfl⟩
theorem zF_X3_readOrder_14 : zF RX3 wsX3_readOrder 3 3 14 := ⟨RX3, TX3, 4, rfl, by decide +kernel, by decide, by decide +kernel⟩
theorem cs_X3_readOrder_45 : zCV RX3 wsX3_readOrder 45 6 yX6_clear wsX6_clear cX6_clear 1 none rm_X3_readOrder rm_X6_clear 0 := ⟨_, _, gX3_readOrder_X6_clear, rfl, ⟨by decide +kernel, by decide +kernel, by decide +kernel⟩, ⟨Nat.le_of_ble_eq_true rfl, Nat.le_of_ble_eq_true rfl⟩, rfl, rfl⟩
theorem zF_X3_readOrder_42 : zF RX3 wsX3_readOrder 3 1 42 := ⟨RX3, TX3, 4, rfl, by decide +kernel, by decide, by decide +kernel⟩
theorem zW_X3_readOrder_20 : zW RX3 wsX3_readOrder 3 0 20 false (tyX3 0) := ⟨RX3, TX3, 4, tyX3, rfl, by decide +kernel, by decide, by decide +kernel, tyX3_ok, nmX3, rfl, rfl, rfl⟩
theorem cs_X3_readOrder_48 : zCV RX3 wsX3_readOrder 48 3 yX3_readNumber wsX3_readNumber cX3_readNumber 3 (some .boolean) rm_X3_readOrder rm_X3_readNumber 1 := ⟨_, _, gX3_readOrder_X3_readNumber, rfl, ⟨by decide +kernel, by decide +kernel, by decide +kernel⟩, ⟨Nat.le_of_ble_eq_true rfl, Nat.le_of_ble_eq_true rfl⟩, rfl, rfl⟩
theorem cs_X3_readOrder_34 : zCV RX3 wsX3_readOrder 34 3 yX3_skip wsX3_skip cX3_skip 3 (some .boolean) rm_X3_readOrder rm_X3_skip 2 := ⟨_, _, gX3_readOrder_X3_skip, rfl, ⟨by decide +kernel, by decide +kernel, by decide +kernel⟩, ⟨Nat.le_of_ble_eq_true rfl, Nat.le_of_ble_eq_true rfl⟩, rfl, rfl⟩
theorem cs_X3_readOrder_51 : zCV RX3 wsX3_readOrder 51 3 yX3_readLetters wsX3_readLetters cX3_readLetters 2 (some .boolean) rm_X3_readOrder rm_X3_readLetters 1 := ⟨_, _, gX3_readOrder_X3_readLetters, rfl, ⟨by decide +kernel, by decide +kernel, by decide +kernel⟩, ⟨Nat.le_of_ble_eq_true rfl, Nat.le_of_ble_eq_true rfl⟩, rfl, rfl⟩
set_option maxRecDepth 100000 in
theorem c_X3_readOrder (l : Launch) (D : zD) (base : Nat) (w r : Nat) (nx kd lf cn n : Int) (fn f : Int → Int) (hq : base ≤ w) (hr : base ≤ r) (hd : w + 3 ≤ r ∨ r + 2 ≤ w) (hnx : 0 ≤ nx ∧ nx ≤ n) (hf : ∀ i : Int, 0 ≤ i → i < n → 33 ≤ f i ∧ f i ≤ 126) : Ct l yX3_readOrder wsX3_readOrder rm_X3_readOrder D base [.ref w, .ref r] (fun H => RdAt D w nx kd lf cn fn H ∧ RowAt D r 80 n f H) (PI (fun H v H1 => ∃ (lf2 cn2 : Int) (fn2 : Int → Int), (ordOk n f nx ∧ v = 1 ∨ ¬ ordOk n f nx ∧ v = 0) ∧ RdAt D w (ordE n f nx) (itm n f nx) lf2 cn2 fn2 H1 ∧ (ordOk n f nx → 1 ≤ cn2 ∧ fn2 0 = oA n f nx ∧ (itm n f nx = 45 ∨ itm n f nx = 110 ∨ itm n f nx = 109 → 2 ≤ cn2 ∧ fn2 1 = oB n f nx) ∧ (itm n f nx = 109 → 3 ≤ cn2 ∧ fn2 2 = oC n f nx) ∧ (itm n f nx = 43 → lf2 = oe1 n f nx + 1)) ∧ RowAt D r 80 n f H1 ∧ Fr (Iv w (w + 3)) 0 H H1)) := by
  refine Ct.of (own := RX3) (cc := cX3_readOrder) (maxL := 2) (by decide +kernel) rfl (Nat.le_of_ble_eq_true rfl) rfl ?_
  intro K H X R hH hnm hP
  show G K 0 0 H 0 [(0, .ref w), (1, .ref r)] []
  obtain ⟨⟨hO, hNu⟩, hF⟩ := hP
  have hbd := hF.bd
  have hbn := hNu.bd
  have hit : ∀ p : Int, -1 ≤ itm n f p ∧ itm n f p ≤ 126 := fun p => by unfold itm; split; (next c => have := hf p c.1 c.2; omega); omega
  have hin := hit nx
  refine g_aload_n (pc := 0) (pl := 0) X dX3_readOrder_0 rfl ?_
  refine g_aload_n (pc := 1) (pl := 1) X dX3_readOrder_1 rfl ?_
  refine g_aload_n (pc := 2) (pl := 0) X dX3_readOrder_2 rfl ?_
  refine g_getf (pc := 3) X zF_X3_readOrder_20 hO rfl dX3_readOrder_3 ?_
  obtain ⟨hFO, -⟩ := id hF
  refine gVi (pc := 6) (n2 := 0) (k2 := 0) X cs_X3_readOrder_38 (c_X6_item (zl K) D base r 80 n f nx (by omega)) rfl hFO (by omega) hF rfl ⟨Nat.le_of_ble_eq_true rfl, Nat.le_of_ble_eq_true rfl⟩ dX3_readOrder_6 (Nat.le_of_ble_eq_true rfl) rfl rfl (fun v6 H1 hp6 hs6 => ?_)
  obtain ⟨rfl, rfl⟩ := hp6
  have hi6 := hit nx
  refine g_putf (pc := 9) X zW_X3_readOrder_42 hO (by omega) rfl rfl rfl dX3_readOrder_9 (fun H1 hOn hf1 => ?_)
  replace hNu := hNu.fr hf1 (by omega)
  replace hF := hF.fr hf1 (by omega)
  replace hO : Ob D w 3 [.int (J nx), .int (J (itm n f nx)), .int (J lf), .ref (w + 1)] H1 := hOn
  clear hOn
  refine g_aload_n (pc := 12) (pl := 0) X dX3_readOrder_12 rfl ?_
  refine g_getf (pc := 13) X zF_X3_readOrder_14 hO rfl dX3_readOrder_13 ?_
  obtain ⟨hRO, -⟩ := id hNu
  refine gVv (pc := 16) (n2 := 0) (k2 := 0) X cs_X3_readOrder_45 (c_X6_clear (zl K) D base (w + 1) 3 cn fn (by omega)) rfl hRO (by omega) hNu rfl ⟨Nat.le_of_ble_eq_true rfl, Nat.le_of_ble_eq_true rfl⟩ dX3_readOrder_16 (Nat.le_of_ble_eq_true rfl) rfl rfl (fun H2 hp16 hs16 => ?_)
  obtain ⟨hNun, hfa⟩ := hp16
  replace hO := hO.fr hfa (by omega)
  replace hF := hF.fr hfa (by omega)
  replace hNu := hNun
  clear hNun
  refine g_aload_n (pc := 19) (pl := 0) X dX3_readOrder_19 rfl ?_
  refine g_getf (pc := 20) X zF_X3_readOrder_42 hO rfl dX3_readOrder_20 ?_
  by_cases cs23_0 : itm n f nx = 43
  · skip
    refine g_lookup (pc := 23) (a := itm n f nx) (off := 65) X 88 dX3_readOrder_23 (by omega) (by decide) (by rw [cs23_0]; decide) (by decide) ?_
    have hin2 := itm_in (n := n) (f := f) (p := nx) (by omega)
    refine g_aload_n (pc := 88) (pl := 0) X dX3_readOrder_88 rfl ?_
    refine g_dup (pc := 89) X dX3_readOrder_89 rfl ?_
    refine g_getf (pc := 90) X zF_X3_readOrder_20 hO rfl dX3_readOrder_90 ?_
    refine g_iconst (pc := 93) X dX3_readOrder_93 ?_
    refine g_iadd (pc := 94) X dX3_readOrder_94 ?_
    refine g_putf (pc := 95) X zW_X3_readOrder_20 hO (by omega) rfl rfl rfl dX3_readOrder_95 (fun H3 hOn hf3 => ?_)
    replace hNu := hNu.fr hf3 (by omega)
    replace hF := hF.fr hf3 (by omega)
    replace hO : Ob D w 3 [.int (J (nx + 1)), .int (J (itm n f nx)), .int (J lf), .ref (w + 1)] H3 := hOn
    clear hOn
    refine g_aload_n (pc := 98) (pl := 0) X dX3_readOrder_98 rfl ?_
    refine g_aload_n (pc := 99) (pl := 1) X dX3_readOrder_99 rfl ?_
    refine gVi (pc := 100) (n2 := 0) (k2 := 0) X cs_X3_readOrder_48 (c_X3_readNumber (zl K) D base w r (nx + 1) (itm n f nx) lf 0 n fn f hq hr hd (by omega) hf (by omega)) rfl hO (by omega) ⟨⟨hO, hNu⟩, hF⟩ rfl ⟨Nat.le_of_ble_eq_true rfl, Nat.le_of_ble_eq_true rfl⟩ dX3_readOrder_100 (Nat.le_of_ble_eq_true rfl) rfl rfl (fun v100 H4 hp100 hs100 => ?_)
    rcases hp100 with ⟨ha100, rfl, ⟨hO, hNu⟩, hF, hf100⟩ | ⟨ha100, rfl, rfl⟩
    · skip
      have hb100 := num_bd ha100
      refine g_if_eq (pc := 103) X 128 dX3_readOrder_103 (by decide) (by omega) (fun c103 => ?_) (fun c103 => ?_)
      · skip
        exact absurd c103 (by decide)
      · skip
        refine g_aload_n (pc := 106) (pl := 0) X dX3_readOrder_106 rfl ?_
        refine g_aload_n (pc := 107) (pl := 1) X dX3_readOrder_107 rfl ?_
        refine g_bipush (pc := 108) X dX3_readOrder_108 (by decide +kernel) ?_
        refine gVi (pc := 110) (n2 := 0) (k2 := 0) X cs_X3_readOrder_34 (c_X3_skip (zl K) D base w r (numE n f (nx + 1)) (itm n f nx) lf 1 n (up fn 0 (numV n f (nx + 1))) f 61 hq hr hd (by omega) hf (by omega)) rfl hO (by omega) ⟨⟨hO, hNu⟩, hF⟩ rfl ⟨Nat.le_of_ble_eq_true rfl, Nat.le_of_ble_eq_true rfl⟩ dX3_readOrder_110 (Nat.le_of_ble_eq_true rfl) rfl rfl (fun v110 H5 hp110 hs110 => ?_)
        rcases hp110 with ⟨ha110, rfl, ⟨hO, hNu⟩, hF, hf110⟩ | ⟨ha110, rfl, rfl⟩
        · skip
          have hb110 := itm_in (n := n) (f := f) (p := numE n f (nx + 1)) (by omega)
          refine g_if_eq (pc := 113) X 128 dX3_readOrder_113 (by decide) (by omega) (fun c113 => ?_) (fun c113 => ?_)
          · skip
            exact absurd c113 (by decide)
          · skip
            refine g_aload_n (pc := 116) (pl := 0) X dX3_readOrder_116 rfl ?_
            refine g_aload_n (pc := 117) (pl := 1) X dX3_readOrder_117 rfl ?_
            refine gVi (pc := 118) (n2 := 0) (k2 := 0) X cs_X3_readOrder_51 (c_X3_readLetters (zl K) D base w r (numE n f (nx + 1) + 1) (itm n f nx) lf 1 n (up fn 0 (numV n f (nx + 1))) f hq hr hd (by omega) hf) rfl hO (by omega) ⟨⟨hO, hNu⟩, hF⟩ rfl ⟨Nat.le_of_ble_eq_true rfl, Nat.le_of_ble_eq_true rfl⟩ dX3_readOrder_118 (Nat.le_of_ble_eq_true rfl) rfl rfl (fun v118 H6 hp118 hs118 => ?_)
            rcases hp118 with ⟨⟨ha118, rfl⟩ | ⟨ha118, rfl⟩, ⟨hO, hNu⟩, hF, hf118⟩
            · skip
              refine g_if_eq (pc := 121) X 128 dX3_readOrder_121 (by decide) (by omega) (fun c121 => ?_) (fun c121 => ?_)
              · skip
                exact absurd c121 (by decide)
              · skip
                refine g_iconst (pc := 124) X dX3_readOrder_124 ?_
                refine g_goto (pc := 125) X 129 dX3_readOrder_125 (by decide) ?_
                refine g_zret (pc := 129) X R hH (by first | exact Or.inl rfl | exact Or.inr rfl | omega) dX3_readOrder_129 ?_
                obtain ⟨eE, eKi⟩ := o_plus3 (by omega) ha100 ha110
                have eK := eKi.mpr ha118
                exact ⟨_, _, _, Or.inl ⟨eK, rfl⟩, by rw [eE]; exact ⟨hO, hNu⟩, fun _ => ⟨by omega, rfl, fun z => by first | exact ⟨by omega, rfl⟩ | omega, fun z => by first | exact ⟨by omega, rfl⟩ | omega, fun z => by first | rfl | omega⟩, hF, (Fr.trans (hf1.wide (by omega) (by omega)) (Fr.trans (hfa.wide (by omega) (by omega)) (Fr.trans (hf3.wide (by omega) (by omega)) (Fr.trans (hf100.wide (by omega) (by omega)) (Fr.trans (hf110.wide (by omega) (by omega)) (hf118.wide (by omega) (by omega)))))))⟩
            · skip
              refine g_if_eq (pc := 121) X 128 dX3_readOrder_121 (by decide) (by omega) (fun c121 => ?_) (fun c121 => ?_)
              · skip
                refine g_iconst (pc := 128) X dX3_readOrder_128 ?_
                refine g_zret (pc := 129) X R hH (by first | exact Or.inl rfl | exact Or.inr rfl | omega) dX3_readOrder_129 ?_
                obtain ⟨eE, eKi⟩ := o_plus3 (by omega) ha100 ha110
                have eK := fun z => ha118 (eKi.mp z)
                exact ⟨_, _, _, Or.inr ⟨eK, rfl⟩, by rw [eE]; exact ⟨hO, hNu⟩, fun z => absurd z eK, hF, (Fr.trans (hf1.wide (by omega) (by omega)) (Fr.trans (hfa.wide (by omega) (by omega)) (Fr.trans (hf3.wide (by omega) (by omega)) (Fr.trans (hf100.wide (by omega) (by omega)) (Fr.trans (hf110.wide (by omega) (by omega)) (hf118.wide (by omega) (by omega)))))))⟩
              · skip
                exact absurd (by decide) c121
        · skip
          refine g_if_eq (pc := 113) X 128 dX3_readOrder_113 (by decide) (by omega) (fun c113 => ?_) (fun c113 => ?_)
          · skip
            refine g_iconst (pc := 128) X dX3_readOrder_128 ?_
            refine g_zret (pc := 129) X R hH (by first | exact Or.inl rfl | exact Or.inr rfl | omega) dX3_readOrder_129 ?_
            obtain ⟨eE, eK⟩ := o_plus2 (by omega) ha100 ha110
            exact ⟨_, _, _, Or.inr ⟨eK, rfl⟩, by rw [eE]; exact ⟨hO, hNu⟩, fun z => absurd z eK, hF, (Fr.trans (hf1.wide (by omega) (by omega)) (Fr.trans (hfa.wide (by omega) (by omega)) (Fr.trans (hf3.wide (by omega) (by omega)) (hf100.wide (by omega) (by omega)))))⟩
          · skip
            exact absurd (by decide) c113
    · skip
      refine g_if_eq (pc := 103) X 128 dX3_readOrder_103 (by decide) (by omega) (fun c103 => ?_) (fun c103 => ?_)
      · skip
        refine g_iconst (pc := 128) X dX3_readOrder_128 ?_
        refine g_zret (pc := 129) X R hH (by first | exact Or.inl rfl | exact Or.inr rfl | omega) dX3_readOrder_129 ?_
        obtain ⟨eE, eK⟩ := o_plus1 (by omega) ha100
        exact ⟨_, _, _, Or.inr ⟨eK, rfl⟩, by rw [eE]; exact ⟨hO, hNu⟩, fun z => absurd z eK, hF, (Fr.trans (hf1.wide (by omega) (by omega)) (Fr.trans (hfa.wide (by omega) (by omega)) (hf3.wide (by omega) (by omega))))⟩
      · skip
        exact absurd (by decide) c103
  · skip
    by_cases cs23_1 : itm n f nx = 45
    · skip
      refine g_lookup (pc := 23) (a := itm n f nx) (off := 107) X 130 dX3_readOrder_23 (by omega) (by decide) (by rw [cs23_1]; decide) (by decide) ?_
      have hin2 := itm_in (n := n) (f := f) (p := nx) (by omega)
      refine g_aload_n (pc := 130) (pl := 0) X dX3_readOrder_130 rfl ?_
      refine g_dup (pc := 131) X dX3_readOrder_131 rfl ?_
      refine g_getf (pc := 132) X zF_X3_readOrder_20 hO rfl dX3_readOrder_132 ?_
      refine g_iconst (pc := 135) X dX3_readOrder_135 ?_
      refine g_iadd (pc := 136) X dX3_readOrder_136 ?_
      refine g_putf (pc := 137) X zW_X3_readOrder_20 hO (by omega) rfl rfl rfl dX3_readOrder_137 (fun H3 hOn hf3 => ?_)
      replace hNu := hNu.fr hf3 (by omega)
      replace hF := hF.fr hf3 (by omega)
      replace hO : Ob D w 3 [.int (J (nx + 1)), .int (J (itm n f nx)), .int (J lf), .ref (w + 1)] H3 := hOn
      clear hOn
      refine g_aload_n (pc := 140) (pl := 0) X dX3_readOrder_140 rfl ?_
      refine g_aload_n (pc := 141) (pl := 1) X dX3_readOrder_141 rfl ?_
      refine gVi (pc := 142) (n2 := 0) (k2 := 0) X cs_X3_readOrder_48 (c_X3_readNumber (zl K) D base w r (nx + 1) (itm n f nx) lf 0 n fn f hq hr hd (by omega) hf (by omega)) rfl hO (by omega) ⟨⟨hO, hNu⟩, hF⟩ rfl ⟨Nat.le_of_ble_eq_true rfl, Nat.le_of_ble_eq_true rfl⟩ dX3_readOrder_142 (Nat.le_of_ble_eq_true rfl) rfl rfl (fun v142 H4 hp142 hs142 => ?_)
      rcases hp142 with ⟨ha142, rfl, ⟨hO, hNu⟩, hF, hf142⟩ | ⟨ha142, rfl, rfl⟩
      · skip
        have hb142 := num_bd ha142
        refine g_if_eq (pc := 145) X 170 dX3_readOrder_145 (by decide) (by omega) (fun c145 => ?_) (fun c145 => ?_)
        · skip
          exact absurd c145 (by decide)
        · skip
          refine g_aload_n (pc := 148) (pl := 0) X dX3_readOrder_148 rfl ?_
          refine g_aload_n (pc := 149) (pl := 1) X dX3_readOrder_149 rfl ?_
          refine g_bipush (pc := 150) X dX3_readOrder_150 (by decide +kernel) ?_
          refine gVi (pc := 152) (n2 := 0) (k2 := 0) X cs_X3_readOrder_34 (c_X3_skip (zl K) D base w r (numE n f (nx + 1)) (itm n f nx) lf 1 n (up fn 0 (numV n f (nx + 1))) f 45 hq hr hd (by omega) hf (by omega)) rfl hO (by omega) ⟨⟨hO, hNu⟩, hF⟩ rfl ⟨Nat.le_of_ble_eq_true rfl, Nat.le_of_ble_eq_true rfl⟩ dX3_readOrder_152 (Nat.le_of_ble_eq_true rfl) rfl rfl (fun v152 H5 hp152 hs152 => ?_)
          rcases hp152 with ⟨ha152, rfl, ⟨hO, hNu⟩, hF, hf152⟩ | ⟨ha152, rfl, rfl⟩
          · skip
            have hb152 := itm_in (n := n) (f := f) (p := numE n f (nx + 1)) (by omega)
            refine g_if_eq (pc := 155) X 170 dX3_readOrder_155 (by decide) (by omega) (fun c155 => ?_) (fun c155 => ?_)
            · skip
              exact absurd c155 (by decide)
            · skip
              refine g_aload_n (pc := 158) (pl := 0) X dX3_readOrder_158 rfl ?_
              refine g_aload_n (pc := 159) (pl := 1) X dX3_readOrder_159 rfl ?_
              refine gVi (pc := 160) (n2 := 0) (k2 := 0) X cs_X3_readOrder_48 (c_X3_readNumber (zl K) D base w r (numE n f (nx + 1) + 1) (itm n f nx) lf 1 n (up fn 0 (numV n f (nx + 1))) f hq hr hd (by omega) hf (by omega)) rfl hO (by omega) ⟨⟨hO, hNu⟩, hF⟩ rfl ⟨Nat.le_of_ble_eq_true rfl, Nat.le_of_ble_eq_true rfl⟩ dX3_readOrder_160 (Nat.le_of_ble_eq_true rfl) rfl rfl (fun v160 H6 hp160 hs160 => ?_)
              rcases hp160 with ⟨ha160, rfl, ⟨hO, hNu⟩, hF, hf160⟩ | ⟨ha160, rfl, rfl⟩
              · skip
                have hb160 := num_bd ha160
                refine g_if_eq (pc := 163) X 170 dX3_readOrder_163 (by decide) (by omega) (fun c163 => ?_) (fun c163 => ?_)
                · skip
                  exact absurd c163 (by decide)
                · skip
                  refine g_iconst (pc := 166) X dX3_readOrder_166 ?_
                  refine g_goto (pc := 167) X 171 dX3_readOrder_167 (by decide) ?_
                  refine g_zret (pc := 171) X R hH (by first | exact Or.inl rfl | exact Or.inr rfl | omega) dX3_readOrder_171 ?_
                  obtain ⟨eE1, eKi⟩ := o_span (n := n) (f := f) (p := nx) (by omega)
                  obtain ⟨eE2, eS⟩ := s_4 ha142 ha152 ha160
                  have eE := eE1.trans eE2
                  have eK := eKi.mpr eS
                  exact ⟨_, _, _, Or.inl ⟨eK, rfl⟩, by rw [eE]; exact ⟨hO, hNu⟩, fun _ => ⟨by omega, rfl, fun z => by first | exact ⟨by omega, rfl⟩ | omega, fun z => by first | exact ⟨by omega, rfl⟩ | omega, fun z => by first | rfl | omega⟩, hF, (Fr.trans (hf1.wide (by omega) (by omega)) (Fr.trans (hfa.wide (by omega) (by omega)) (Fr.trans (hf3.wide (by omega) (by omega)) (Fr.trans (hf142.wide (by omega) (by omega)) (Fr.trans (hf152.wide (by omega) (by omega)) (hf160.wide (by omega) (by omega)))))))⟩
              · skip
                refine g_if_eq (pc := 163) X 170 dX3_readOrder_163 (by decide) (by omega) (fun c163 => ?_) (fun c163 => ?_)
                · skip
                  refine g_iconst (pc := 170) X dX3_readOrder_170 ?_
                  refine g_zret (pc := 171) X R hH (by first | exact Or.inl rfl | exact Or.inr rfl | omega) dX3_readOrder_171 ?_
                  obtain ⟨eE1, eKi⟩ := o_span (n := n) (f := f) (p := nx) (by omega)
                  obtain ⟨eE2, eS⟩ := s_3 ha142 ha152 ha160
                  have eE := eE1.trans eE2
                  have eK := fun z => eS (eKi.mp z)
                  exact ⟨_, _, _, Or.inr ⟨eK, rfl⟩, by rw [eE]; exact ⟨hO, hNu⟩, fun z => absurd z eK, hF, (Fr.trans (hf1.wide (by omega) (by omega)) (Fr.trans (hfa.wide (by omega) (by omega)) (Fr.trans (hf3.wide (by omega) (by omega)) (Fr.trans (hf142.wide (by omega) (by omega)) (hf152.wide (by omega) (by omega))))))⟩
                · skip
                  exact absurd (by decide) c163
          · skip
            refine g_if_eq (pc := 155) X 170 dX3_readOrder_155 (by decide) (by omega) (fun c155 => ?_) (fun c155 => ?_)
            · skip
              refine g_iconst (pc := 170) X dX3_readOrder_170 ?_
              refine g_zret (pc := 171) X R hH (by first | exact Or.inl rfl | exact Or.inr rfl | omega) dX3_readOrder_171 ?_
              obtain ⟨eE1, eKi⟩ := o_span (n := n) (f := f) (p := nx) (by omega)
              obtain ⟨eE2, eS⟩ := s_2 ha142 ha152
              have eE := eE1.trans eE2
              have eK := fun z => eS (eKi.mp z)
              exact ⟨_, _, _, Or.inr ⟨eK, rfl⟩, by rw [eE]; exact ⟨hO, hNu⟩, fun z => absurd z eK, hF, (Fr.trans (hf1.wide (by omega) (by omega)) (Fr.trans (hfa.wide (by omega) (by omega)) (Fr.trans (hf3.wide (by omega) (by omega)) (hf142.wide (by omega) (by omega)))))⟩
            · skip
              exact absurd (by decide) c155
      · skip
        refine g_if_eq (pc := 145) X 170 dX3_readOrder_145 (by decide) (by omega) (fun c145 => ?_) (fun c145 => ?_)
        · skip
          refine g_iconst (pc := 170) X dX3_readOrder_170 ?_
          refine g_zret (pc := 171) X R hH (by first | exact Or.inl rfl | exact Or.inr rfl | omega) dX3_readOrder_171 ?_
          obtain ⟨eE1, eKi⟩ := o_span (n := n) (f := f) (p := nx) (by omega)
          obtain ⟨eE2, eS⟩ := s_1 ha142
          have eE := eE1.trans eE2
          have eK := fun z => eS (eKi.mp z)
          exact ⟨_, _, _, Or.inr ⟨eK, rfl⟩, by rw [eE]; exact ⟨hO, hNu⟩, fun z => absurd z eK, hF, (Fr.trans (hf1.wide (by omega) (by omega)) (Fr.trans (hfa.wide (by omega) (by omega)) (hf3.wide (by omega) (by omega))))⟩
        · skip
          exact absurd (by decide) c145
    · skip
      by_cases cs23_2 : itm n f nx = 99
      · skip
        refine g_lookup (pc := 23) (a := itm n f nx) (off := 209) X 232 dX3_readOrder_23 (by omega) (by decide) (by rw [cs23_2]; decide) (by decide) ?_
        have hin2 := itm_in (n := n) (f := f) (p := nx) (by omega)
        refine g_aload_n (pc := 232) (pl := 0) X dX3_readOrder_232 rfl ?_
        refine g_dup (pc := 233) X dX3_readOrder_233 rfl ?_
        refine g_getf (pc := 234) X zF_X3_readOrder_20 hO rfl dX3_readOrder_234 ?_
        refine g_iconst (pc := 237) X dX3_readOrder_237 ?_
        refine g_iadd (pc := 238) X dX3_readOrder_238 ?_
        refine g_putf (pc := 239) X zW_X3_readOrder_20 hO (by omega) rfl rfl rfl dX3_readOrder_239 (fun H3 hOn hf3 => ?_)
        replace hNu := hNu.fr hf3 (by omega)
        replace hF := hF.fr hf3 (by omega)
        replace hO : Ob D w 3 [.int (J (nx + 1)), .int (J (itm n f nx)), .int (J lf), .ref (w + 1)] H3 := hOn
        clear hOn
        refine g_aload_n (pc := 242) (pl := 0) X dX3_readOrder_242 rfl ?_
        refine g_aload_n (pc := 243) (pl := 1) X dX3_readOrder_243 rfl ?_
        refine gVi (pc := 244) (n2 := 0) (k2 := 0) X cs_X3_readOrder_48 (c_X3_readNumber (zl K) D base w r (nx + 1) (itm n f nx) lf 0 n fn f hq hr hd (by omega) hf (by omega)) rfl hO (by omega) ⟨⟨hO, hNu⟩, hF⟩ rfl ⟨Nat.le_of_ble_eq_true rfl, Nat.le_of_ble_eq_true rfl⟩ dX3_readOrder_244 (Nat.le_of_ble_eq_true rfl) rfl rfl (fun v244 H4 hp244 hs244 => ?_)
        rcases hp244 with ⟨ha244, rfl, ⟨hO, hNu⟩, hF, hf244⟩ | ⟨ha244, rfl, rfl⟩
        · skip
          have hb244 := num_bd ha244
          refine g_zret (pc := 247) X R hH (by first | exact Or.inl rfl | exact Or.inr rfl | omega) dX3_readOrder_247 ?_
          obtain ⟨eE, eK⟩ := o_one2 (by omega) ha244
          exact ⟨_, _, _, Or.inl ⟨eK, rfl⟩, by rw [eE]; exact ⟨hO, hNu⟩, fun _ => ⟨by omega, rfl, fun z => by first | exact ⟨by omega, rfl⟩ | omega, fun z => by first | exact ⟨by omega, rfl⟩ | omega, fun z => by first | rfl | omega⟩, hF, (Fr.trans (hf1.wide (by omega) (by omega)) (Fr.trans (hfa.wide (by omega) (by omega)) (Fr.trans (hf3.wide (by omega) (by omega)) (hf244.wide (by omega) (by omega)))))⟩
        · skip
          refine g_zret (pc := 247) X R hH (by first | exact Or.inl rfl | exact Or.inr rfl | omega) dX3_readOrder_247 ?_
          obtain ⟨eE, eK⟩ := o_one1 (by omega) ha244
          exact ⟨_, _, _, Or.inr ⟨eK, rfl⟩, by rw [eE]; exact ⟨hO, hNu⟩, fun z => absurd z eK, hF, (Fr.trans (hf1.wide (by omega) (by omega)) (Fr.trans (hfa.wide (by omega) (by omega)) (hf3.wide (by omega) (by omega))))⟩
      · skip
        by_cases cs23_3 : itm n f nx = 109
        · skip
          refine g_lookup (pc := 23) (a := itm n f nx) (off := 149) X 172 dX3_readOrder_23 (by omega) (by decide) (by rw [cs23_3]; decide) (by decide) ?_
          have hin2 := itm_in (n := n) (f := f) (p := nx) (by omega)
          refine g_aload_n (pc := 172) (pl := 0) X dX3_readOrder_172 rfl ?_
          refine g_dup (pc := 173) X dX3_readOrder_173 rfl ?_
          refine g_getf (pc := 174) X zF_X3_readOrder_20 hO rfl dX3_readOrder_174 ?_
          refine g_iconst (pc := 177) X dX3_readOrder_177 ?_
          refine g_iadd (pc := 178) X dX3_readOrder_178 ?_
          refine g_putf (pc := 179) X zW_X3_readOrder_20 hO (by omega) rfl rfl rfl dX3_readOrder_179 (fun H3 hOn hf3 => ?_)
          replace hNu := hNu.fr hf3 (by omega)
          replace hF := hF.fr hf3 (by omega)
          replace hO : Ob D w 3 [.int (J (nx + 1)), .int (J (itm n f nx)), .int (J lf), .ref (w + 1)] H3 := hOn
          clear hOn
          refine g_aload_n (pc := 182) (pl := 0) X dX3_readOrder_182 rfl ?_
          refine g_aload_n (pc := 183) (pl := 1) X dX3_readOrder_183 rfl ?_
          refine gVi (pc := 184) (n2 := 0) (k2 := 0) X cs_X3_readOrder_48 (c_X3_readNumber (zl K) D base w r (nx + 1) (itm n f nx) lf 0 n fn f hq hr hd (by omega) hf (by omega)) rfl hO (by omega) ⟨⟨hO, hNu⟩, hF⟩ rfl ⟨Nat.le_of_ble_eq_true rfl, Nat.le_of_ble_eq_true rfl⟩ dX3_readOrder_184 (Nat.le_of_ble_eq_true rfl) rfl rfl (fun v184 H4 hp184 hs184 => ?_)
          rcases hp184 with ⟨ha184, rfl, ⟨hO, hNu⟩, hF, hf184⟩ | ⟨ha184, rfl, rfl⟩
          · skip
            have hb184 := num_bd ha184
            refine g_if_eq (pc := 187) X 230 dX3_readOrder_187 (by decide) (by omega) (fun c187 => ?_) (fun c187 => ?_)
            · skip
              exact absurd c187 (by decide)
            · skip
              refine g_aload_n (pc := 190) (pl := 0) X dX3_readOrder_190 rfl ?_
              refine g_aload_n (pc := 191) (pl := 1) X dX3_readOrder_191 rfl ?_
              refine g_bipush (pc := 192) X dX3_readOrder_192 (by decide +kernel) ?_
              refine gVi (pc := 194) (n2 := 0) (k2 := 0) X cs_X3_readOrder_34 (c_X3_skip (zl K) D base w r (numE n f (nx + 1)) (itm n f nx) lf 1 n (up fn 0 (numV n f (nx + 1))) f 45 hq hr hd (by omega) hf (by omega)) rfl hO (by omega) ⟨⟨hO, hNu⟩, hF⟩ rfl ⟨Nat.le_of_ble_eq_true rfl, Nat.le_of_ble_eq_true rfl⟩ dX3_readOrder_194 (Nat.le_of_ble_eq_true rfl) rfl rfl (fun v194 H5 hp194 hs194 => ?_)
              rcases hp194 with ⟨ha194, rfl, ⟨hO, hNu⟩, hF, hf194⟩ | ⟨ha194, rfl, rfl⟩
              · skip
                have hb194 := itm_in (n := n) (f := f) (p := numE n f (nx + 1)) (by omega)
                refine g_if_eq (pc := 197) X 230 dX3_readOrder_197 (by decide) (by omega) (fun c197 => ?_) (fun c197 => ?_)
                · skip
                  exact absurd c197 (by decide)
                · skip
                  refine g_aload_n (pc := 200) (pl := 0) X dX3_readOrder_200 rfl ?_
                  refine g_aload_n (pc := 201) (pl := 1) X dX3_readOrder_201 rfl ?_
                  refine gVi (pc := 202) (n2 := 0) (k2 := 0) X cs_X3_readOrder_48 (c_X3_readNumber (zl K) D base w r (numE n f (nx + 1) + 1) (itm n f nx) lf 1 n (up fn 0 (numV n f (nx + 1))) f hq hr hd (by omega) hf (by omega)) rfl hO (by omega) ⟨⟨hO, hNu⟩, hF⟩ rfl ⟨Nat.le_of_ble_eq_true rfl, Nat.le_of_ble_eq_true rfl⟩ dX3_readOrder_202 (Nat.le_of_ble_eq_true rfl) rfl rfl (fun v202 H6 hp202 hs202 => ?_)
                  rcases hp202 with ⟨ha202, rfl, ⟨hO, hNu⟩, hF, hf202⟩ | ⟨ha202, rfl, rfl⟩
                  · skip
                    have hb202 := num_bd ha202
                    refine g_if_eq (pc := 205) X 230 dX3_readOrder_205 (by decide) (by omega) (fun c205 => ?_) (fun c205 => ?_)
                    · skip
                      exact absurd c205 (by decide)
                    · skip
                      refine g_aload_n (pc := 208) (pl := 0) X dX3_readOrder_208 rfl ?_
                      refine g_aload_n (pc := 209) (pl := 1) X dX3_readOrder_209 rfl ?_
                      refine g_bipush (pc := 210) X dX3_readOrder_210 (by decide +kernel) ?_
                      refine gVi (pc := 212) (n2 := 0) (k2 := 0) X cs_X3_readOrder_34 (c_X3_skip (zl K) D base w r (numE n f (numE n f (nx + 1) + 1)) (itm n f nx) lf 2 n (up (up fn 0 (numV n f (nx + 1))) 1 (numV n f (numE n f (nx + 1) + 1))) f 62 hq hr hd (by omega) hf (by omega)) rfl hO (by omega) ⟨⟨hO, hNu⟩, hF⟩ rfl ⟨Nat.le_of_ble_eq_true rfl, Nat.le_of_ble_eq_true rfl⟩ dX3_readOrder_212 (Nat.le_of_ble_eq_true rfl) rfl rfl (fun v212 H7 hp212 hs212 => ?_)
                      rcases hp212 with ⟨ha212, rfl, ⟨hO, hNu⟩, hF, hf212⟩ | ⟨ha212, rfl, rfl⟩
                      · skip
                        have hb212 := itm_in (n := n) (f := f) (p := numE n f (numE n f (nx + 1) + 1)) (by omega)
                        refine g_if_eq (pc := 215) X 230 dX3_readOrder_215 (by decide) (by omega) (fun c215 => ?_) (fun c215 => ?_)
                        · skip
                          exact absurd c215 (by decide)
                        · skip
                          refine g_aload_n (pc := 218) (pl := 0) X dX3_readOrder_218 rfl ?_
                          refine g_aload_n (pc := 219) (pl := 1) X dX3_readOrder_219 rfl ?_
                          refine gVi (pc := 220) (n2 := 0) (k2 := 0) X cs_X3_readOrder_48 (c_X3_readNumber (zl K) D base w r (numE n f (numE n f (nx + 1) + 1) + 1) (itm n f nx) lf 2 n (up (up fn 0 (numV n f (nx + 1))) 1 (numV n f (numE n f (nx + 1) + 1))) f hq hr hd (by omega) hf (by omega)) rfl hO (by omega) ⟨⟨hO, hNu⟩, hF⟩ rfl ⟨Nat.le_of_ble_eq_true rfl, Nat.le_of_ble_eq_true rfl⟩ dX3_readOrder_220 (Nat.le_of_ble_eq_true rfl) rfl rfl (fun v220 H8 hp220 hs220 => ?_)
                          rcases hp220 with ⟨ha220, rfl, ⟨hO, hNu⟩, hF, hf220⟩ | ⟨ha220, rfl, rfl⟩
                          · skip
                            have hb220 := num_bd ha220
                            refine g_if_eq (pc := 223) X 230 dX3_readOrder_223 (by decide) (by omega) (fun c223 => ?_) (fun c223 => ?_)
                            · skip
                              exact absurd c223 (by decide)
                            · skip
                              refine g_iconst (pc := 226) X dX3_readOrder_226 ?_
                              refine g_goto (pc := 227) X 231 dX3_readOrder_227 (by decide) ?_
                              refine g_zret (pc := 231) X R hH (by first | exact Or.inl rfl | exact Or.inr rfl | omega) dX3_readOrder_231 ?_
                              obtain ⟨eE2, eS⟩ := s_4 ha184 ha194 ha202
                              obtain ⟨eE, eK⟩ := o_m4 (by omega) eS ha212 ha220
                              exact ⟨_, _, _, Or.inl ⟨eK, rfl⟩, by rw [eE]; exact ⟨hO, hNu⟩, fun _ => ⟨by omega, rfl, fun z => by first | exact ⟨by omega, rfl⟩ | omega, fun z => by first | exact ⟨by omega, rfl⟩ | omega, fun z => by first | rfl | omega⟩, hF, (Fr.trans (hf1.wide (by omega) (by omega)) (Fr.trans (hfa.wide (by omega) (by omega)) (Fr.trans (hf3.wide (by omega) (by omega)) (Fr.trans (hf184.wide (by omega) (by omega)) (Fr.trans (hf194.wide (by omega) (by omega)) (Fr.trans (hf202.wide (by omega) (by omega)) (Fr.trans (hf212.wide (by omega) (by omega)) (hf220.wide (by omega) (by omega)))))))))⟩
                          · skip
                            refine g_if_eq (pc := 223) X 230 dX3_readOrder_223 (by decide) (by omega) (fun c223 => ?_) (fun c223 => ?_)
                            · skip
                              refine g_iconst (pc := 230) X dX3_readOrder_230 ?_
                              refine g_zret (pc := 231) X R hH (by first | exact Or.inl rfl | exact Or.inr rfl | omega) dX3_readOrder_231 ?_
                              obtain ⟨eE2, eS⟩ := s_4 ha184 ha194 ha202
                              obtain ⟨eE, eK⟩ := o_m3 (by omega) eS ha212 ha220
                              exact ⟨_, _, _, Or.inr ⟨eK, rfl⟩, by rw [eE]; exact ⟨hO, hNu⟩, fun z => absurd z eK, hF, (Fr.trans (hf1.wide (by omega) (by omega)) (Fr.trans (hfa.wide (by omega) (by omega)) (Fr.trans (hf3.wide (by omega) (by omega)) (Fr.trans (hf184.wide (by omega) (by omega)) (Fr.trans (hf194.wide (by omega) (by omega)) (Fr.trans (hf202.wide (by omega) (by omega)) (hf212.wide (by omega) (by omega))))))))⟩
                            · skip
                              exact absurd (by decide) c223
                      · skip
                        refine g_if_eq (pc := 215) X 230 dX3_readOrder_215 (by decide) (by omega) (fun c215 => ?_) (fun c215 => ?_)
                        · skip
                          refine g_iconst (pc := 230) X dX3_readOrder_230 ?_
                          refine g_zret (pc := 231) X R hH (by first | exact Or.inl rfl | exact Or.inr rfl | omega) dX3_readOrder_231 ?_
                          obtain ⟨eE2, eS⟩ := s_4 ha184 ha194 ha202
                          obtain ⟨eE, eK⟩ := o_m2 (by omega) eS ha212
                          exact ⟨_, _, _, Or.inr ⟨eK, rfl⟩, by rw [eE]; exact ⟨hO, hNu⟩, fun z => absurd z eK, hF, (Fr.trans (hf1.wide (by omega) (by omega)) (Fr.trans (hfa.wide (by omega) (by omega)) (Fr.trans (hf3.wide (by omega) (by omega)) (Fr.trans (hf184.wide (by omega) (by omega)) (Fr.trans (hf194.wide (by omega) (by omega)) (hf202.wide (by omega) (by omega)))))))⟩
                        · skip
                          exact absurd (by decide) c215
                  · skip
                    refine g_if_eq (pc := 205) X 230 dX3_readOrder_205 (by decide) (by omega) (fun c205 => ?_) (fun c205 => ?_)
                    · skip
                      refine g_iconst (pc := 230) X dX3_readOrder_230 ?_
                      refine g_zret (pc := 231) X R hH (by first | exact Or.inl rfl | exact Or.inr rfl | omega) dX3_readOrder_231 ?_
                      obtain ⟨eE2, eS⟩ := s_3 ha184 ha194 ha202
                      obtain ⟨eE1, eK⟩ := o_m1 (by omega) eS
                      have eE := eE1.trans eE2
                      exact ⟨_, _, _, Or.inr ⟨eK, rfl⟩, by rw [eE]; exact ⟨hO, hNu⟩, fun z => absurd z eK, hF, (Fr.trans (hf1.wide (by omega) (by omega)) (Fr.trans (hfa.wide (by omega) (by omega)) (Fr.trans (hf3.wide (by omega) (by omega)) (Fr.trans (hf184.wide (by omega) (by omega)) (hf194.wide (by omega) (by omega))))))⟩
                    · skip
                      exact absurd (by decide) c205
              · skip
                refine g_if_eq (pc := 197) X 230 dX3_readOrder_197 (by decide) (by omega) (fun c197 => ?_) (fun c197 => ?_)
                · skip
                  refine g_iconst (pc := 230) X dX3_readOrder_230 ?_
                  refine g_zret (pc := 231) X R hH (by first | exact Or.inl rfl | exact Or.inr rfl | omega) dX3_readOrder_231 ?_
                  obtain ⟨eE2, eS⟩ := s_2 ha184 ha194
                  obtain ⟨eE1, eK⟩ := o_m1 (by omega) eS
                  have eE := eE1.trans eE2
                  exact ⟨_, _, _, Or.inr ⟨eK, rfl⟩, by rw [eE]; exact ⟨hO, hNu⟩, fun z => absurd z eK, hF, (Fr.trans (hf1.wide (by omega) (by omega)) (Fr.trans (hfa.wide (by omega) (by omega)) (Fr.trans (hf3.wide (by omega) (by omega)) (hf184.wide (by omega) (by omega)))))⟩
                · skip
                  exact absurd (by decide) c197
          · skip
            refine g_if_eq (pc := 187) X 230 dX3_readOrder_187 (by decide) (by omega) (fun c187 => ?_) (fun c187 => ?_)
            · skip
              refine g_iconst (pc := 230) X dX3_readOrder_230 ?_
              refine g_zret (pc := 231) X R hH (by first | exact Or.inl rfl | exact Or.inr rfl | omega) dX3_readOrder_231 ?_
              obtain ⟨eE2, eS⟩ := s_1 ha184
              obtain ⟨eE1, eK⟩ := o_m1 (by omega) eS
              have eE := eE1.trans eE2
              exact ⟨_, _, _, Or.inr ⟨eK, rfl⟩, by rw [eE]; exact ⟨hO, hNu⟩, fun z => absurd z eK, hF, (Fr.trans (hf1.wide (by omega) (by omega)) (Fr.trans (hfa.wide (by omega) (by omega)) (hf3.wide (by omega) (by omega))))⟩
            · skip
              exact absurd (by decide) c187
        · skip
          by_cases cs23_4 : itm n f nx = 110
          · skip
            refine g_lookup (pc := 23) (a := itm n f nx) (off := 107) X 130 dX3_readOrder_23 (by omega) (by decide) (by rw [cs23_4]; decide) (by decide) ?_
            have hin2 := itm_in (n := n) (f := f) (p := nx) (by omega)
            refine g_aload_n (pc := 130) (pl := 0) X dX3_readOrder_130 rfl ?_
            refine g_dup (pc := 131) X dX3_readOrder_131 rfl ?_
            refine g_getf (pc := 132) X zF_X3_readOrder_20 hO rfl dX3_readOrder_132 ?_
            refine g_iconst (pc := 135) X dX3_readOrder_135 ?_
            refine g_iadd (pc := 136) X dX3_readOrder_136 ?_
            refine g_putf (pc := 137) X zW_X3_readOrder_20 hO (by omega) rfl rfl rfl dX3_readOrder_137 (fun H3 hOn hf3 => ?_)
            replace hNu := hNu.fr hf3 (by omega)
            replace hF := hF.fr hf3 (by omega)
            replace hO : Ob D w 3 [.int (J (nx + 1)), .int (J (itm n f nx)), .int (J lf), .ref (w + 1)] H3 := hOn
            clear hOn
            refine g_aload_n (pc := 140) (pl := 0) X dX3_readOrder_140 rfl ?_
            refine g_aload_n (pc := 141) (pl := 1) X dX3_readOrder_141 rfl ?_
            refine gVi (pc := 142) (n2 := 0) (k2 := 0) X cs_X3_readOrder_48 (c_X3_readNumber (zl K) D base w r (nx + 1) (itm n f nx) lf 0 n fn f hq hr hd (by omega) hf (by omega)) rfl hO (by omega) ⟨⟨hO, hNu⟩, hF⟩ rfl ⟨Nat.le_of_ble_eq_true rfl, Nat.le_of_ble_eq_true rfl⟩ dX3_readOrder_142 (Nat.le_of_ble_eq_true rfl) rfl rfl (fun v142 H4 hp142 hs142 => ?_)
            rcases hp142 with ⟨ha142, rfl, ⟨hO, hNu⟩, hF, hf142⟩ | ⟨ha142, rfl, rfl⟩
            · skip
              have hb142 := num_bd ha142
              refine g_if_eq (pc := 145) X 170 dX3_readOrder_145 (by decide) (by omega) (fun c145 => ?_) (fun c145 => ?_)
              · skip
                exact absurd c145 (by decide)
              · skip
                refine g_aload_n (pc := 148) (pl := 0) X dX3_readOrder_148 rfl ?_
                refine g_aload_n (pc := 149) (pl := 1) X dX3_readOrder_149 rfl ?_
                refine g_bipush (pc := 150) X dX3_readOrder_150 (by decide +kernel) ?_
                refine gVi (pc := 152) (n2 := 0) (k2 := 0) X cs_X3_readOrder_34 (c_X3_skip (zl K) D base w r (numE n f (nx + 1)) (itm n f nx) lf 1 n (up fn 0 (numV n f (nx + 1))) f 45 hq hr hd (by omega) hf (by omega)) rfl hO (by omega) ⟨⟨hO, hNu⟩, hF⟩ rfl ⟨Nat.le_of_ble_eq_true rfl, Nat.le_of_ble_eq_true rfl⟩ dX3_readOrder_152 (Nat.le_of_ble_eq_true rfl) rfl rfl (fun v152 H5 hp152 hs152 => ?_)
                rcases hp152 with ⟨ha152, rfl, ⟨hO, hNu⟩, hF, hf152⟩ | ⟨ha152, rfl, rfl⟩
                · skip
                  have hb152 := itm_in (n := n) (f := f) (p := numE n f (nx + 1)) (by omega)
                  refine g_if_eq (pc := 155) X 170 dX3_readOrder_155 (by decide) (by omega) (fun c155 => ?_) (fun c155 => ?_)
                  · skip
                    exact absurd c155 (by decide)
                  · skip
                    refine g_aload_n (pc := 158) (pl := 0) X dX3_readOrder_158 rfl ?_
                    refine g_aload_n (pc := 159) (pl := 1) X dX3_readOrder_159 rfl ?_
                    refine gVi (pc := 160) (n2 := 0) (k2 := 0) X cs_X3_readOrder_48 (c_X3_readNumber (zl K) D base w r (numE n f (nx + 1) + 1) (itm n f nx) lf 1 n (up fn 0 (numV n f (nx + 1))) f hq hr hd (by omega) hf (by omega)) rfl hO (by omega) ⟨⟨hO, hNu⟩, hF⟩ rfl ⟨Nat.le_of_ble_eq_true rfl, Nat.le_of_ble_eq_true rfl⟩ dX3_readOrder_160 (Nat.le_of_ble_eq_true rfl) rfl rfl (fun v160 H6 hp160 hs160 => ?_)
                    rcases hp160 with ⟨ha160, rfl, ⟨hO, hNu⟩, hF, hf160⟩ | ⟨ha160, rfl, rfl⟩
                    · skip
                      have hb160 := num_bd ha160
                      refine g_if_eq (pc := 163) X 170 dX3_readOrder_163 (by decide) (by omega) (fun c163 => ?_) (fun c163 => ?_)
                      · skip
                        exact absurd c163 (by decide)
                      · skip
                        refine g_iconst (pc := 166) X dX3_readOrder_166 ?_
                        refine g_goto (pc := 167) X 171 dX3_readOrder_167 (by decide) ?_
                        refine g_zret (pc := 171) X R hH (by first | exact Or.inl rfl | exact Or.inr rfl | omega) dX3_readOrder_171 ?_
                        obtain ⟨eE1, eKi⟩ := o_span (n := n) (f := f) (p := nx) (by omega)
                        obtain ⟨eE2, eS⟩ := s_4 ha142 ha152 ha160
                        have eE := eE1.trans eE2
                        have eK := eKi.mpr eS
                        exact ⟨_, _, _, Or.inl ⟨eK, rfl⟩, by rw [eE]; exact ⟨hO, hNu⟩, fun _ => ⟨by omega, rfl, fun z => by first | exact ⟨by omega, rfl⟩ | omega, fun z => by first | exact ⟨by omega, rfl⟩ | omega, fun z => by first | rfl | omega⟩, hF, (Fr.trans (hf1.wide (by omega) (by omega)) (Fr.trans (hfa.wide (by omega) (by omega)) (Fr.trans (hf3.wide (by omega) (by omega)) (Fr.trans (hf142.wide (by omega) (by omega)) (Fr.trans (hf152.wide (by omega) (by omega)) (hf160.wide (by omega) (by omega)))))))⟩
                    · skip
                      refine g_if_eq (pc := 163) X 170 dX3_readOrder_163 (by decide) (by omega) (fun c163 => ?_) (fun c163 => ?_)
                      · skip
                        refine g_iconst (pc := 170) X dX3_readOrder_170 ?_
                        refine g_zret (pc := 171) X R hH (by first | exact Or.inl rfl | exact Or.inr rfl | omega) dX3_readOrder_171 ?_
                        obtain ⟨eE1, eKi⟩ := o_span (n := n) (f := f) (p := nx) (by omega)
                        obtain ⟨eE2, eS⟩ := s_3 ha142 ha152 ha160
                        have eE := eE1.trans eE2
                        have eK := fun z => eS (eKi.mp z)
                        exact ⟨_, _, _, Or.inr ⟨eK, rfl⟩, by rw [eE]; exact ⟨hO, hNu⟩, fun z => absurd z eK, hF, (Fr.trans (hf1.wide (by omega) (by omega)) (Fr.trans (hfa.wide (by omega) (by omega)) (Fr.trans (hf3.wide (by omega) (by omega)) (Fr.trans (hf142.wide (by omega) (by omega)) (hf152.wide (by omega) (by omega))))))⟩
                      · skip
                        exact absurd (by decide) c163
                · skip
                  refine g_if_eq (pc := 155) X 170 dX3_readOrder_155 (by decide) (by omega) (fun c155 => ?_) (fun c155 => ?_)
                  · skip
                    refine g_iconst (pc := 170) X dX3_readOrder_170 ?_
                    refine g_zret (pc := 171) X R hH (by first | exact Or.inl rfl | exact Or.inr rfl | omega) dX3_readOrder_171 ?_
                    obtain ⟨eE1, eKi⟩ := o_span (n := n) (f := f) (p := nx) (by omega)
                    obtain ⟨eE2, eS⟩ := s_2 ha142 ha152
                    have eE := eE1.trans eE2
                    have eK := fun z => eS (eKi.mp z)
                    exact ⟨_, _, _, Or.inr ⟨eK, rfl⟩, by rw [eE]; exact ⟨hO, hNu⟩, fun z => absurd z eK, hF, (Fr.trans (hf1.wide (by omega) (by omega)) (Fr.trans (hfa.wide (by omega) (by omega)) (Fr.trans (hf3.wide (by omega) (by omega)) (hf142.wide (by omega) (by omega)))))⟩
                  · skip
                    exact absurd (by decide) c155
            · skip
              refine g_if_eq (pc := 145) X 170 dX3_readOrder_145 (by decide) (by omega) (fun c145 => ?_) (fun c145 => ?_)
              · skip
                refine g_iconst (pc := 170) X dX3_readOrder_170 ?_
                refine g_zret (pc := 171) X R hH (by first | exact Or.inl rfl | exact Or.inr rfl | omega) dX3_readOrder_171 ?_
                obtain ⟨eE1, eKi⟩ := o_span (n := n) (f := f) (p := nx) (by omega)
                obtain ⟨eE2, eS⟩ := s_1 ha142
                have eE := eE1.trans eE2
                have eK := fun z => eS (eKi.mp z)
                exact ⟨_, _, _, Or.inr ⟨eK, rfl⟩, by rw [eE]; exact ⟨hO, hNu⟩, fun z => absurd z eK, hF, (Fr.trans (hf1.wide (by omega) (by omega)) (Fr.trans (hfa.wide (by omega) (by omega)) (hf3.wide (by omega) (by omega))))⟩
              · skip
                exact absurd (by decide) c145
          · skip
            by_cases cs23_5 : itm n f nx = 114
            · skip
              refine g_lookup (pc := 23) (a := itm n f nx) (off := 209) X 232 dX3_readOrder_23 (by omega) (by decide) (by rw [cs23_5]; decide) (by decide) ?_
              have hin2 := itm_in (n := n) (f := f) (p := nx) (by omega)
              refine g_aload_n (pc := 232) (pl := 0) X dX3_readOrder_232 rfl ?_
              refine g_dup (pc := 233) X dX3_readOrder_233 rfl ?_
              refine g_getf (pc := 234) X zF_X3_readOrder_20 hO rfl dX3_readOrder_234 ?_
              refine g_iconst (pc := 237) X dX3_readOrder_237 ?_
              refine g_iadd (pc := 238) X dX3_readOrder_238 ?_
              refine g_putf (pc := 239) X zW_X3_readOrder_20 hO (by omega) rfl rfl rfl dX3_readOrder_239 (fun H3 hOn hf3 => ?_)
              replace hNu := hNu.fr hf3 (by omega)
              replace hF := hF.fr hf3 (by omega)
              replace hO : Ob D w 3 [.int (J (nx + 1)), .int (J (itm n f nx)), .int (J lf), .ref (w + 1)] H3 := hOn
              clear hOn
              refine g_aload_n (pc := 242) (pl := 0) X dX3_readOrder_242 rfl ?_
              refine g_aload_n (pc := 243) (pl := 1) X dX3_readOrder_243 rfl ?_
              refine gVi (pc := 244) (n2 := 0) (k2 := 0) X cs_X3_readOrder_48 (c_X3_readNumber (zl K) D base w r (nx + 1) (itm n f nx) lf 0 n fn f hq hr hd (by omega) hf (by omega)) rfl hO (by omega) ⟨⟨hO, hNu⟩, hF⟩ rfl ⟨Nat.le_of_ble_eq_true rfl, Nat.le_of_ble_eq_true rfl⟩ dX3_readOrder_244 (Nat.le_of_ble_eq_true rfl) rfl rfl (fun v244 H4 hp244 hs244 => ?_)
              rcases hp244 with ⟨ha244, rfl, ⟨hO, hNu⟩, hF, hf244⟩ | ⟨ha244, rfl, rfl⟩
              · skip
                have hb244 := num_bd ha244
                refine g_zret (pc := 247) X R hH (by first | exact Or.inl rfl | exact Or.inr rfl | omega) dX3_readOrder_247 ?_
                obtain ⟨eE, eK⟩ := o_one2 (by omega) ha244
                exact ⟨_, _, _, Or.inl ⟨eK, rfl⟩, by rw [eE]; exact ⟨hO, hNu⟩, fun _ => ⟨by omega, rfl, fun z => by first | exact ⟨by omega, rfl⟩ | omega, fun z => by first | exact ⟨by omega, rfl⟩ | omega, fun z => by first | rfl | omega⟩, hF, (Fr.trans (hf1.wide (by omega) (by omega)) (Fr.trans (hfa.wide (by omega) (by omega)) (Fr.trans (hf3.wide (by omega) (by omega)) (hf244.wide (by omega) (by omega)))))⟩
              · skip
                refine g_zret (pc := 247) X R hH (by first | exact Or.inl rfl | exact Or.inr rfl | omega) dX3_readOrder_247 ?_
                obtain ⟨eE, eK⟩ := o_one1 (by omega) ha244
                exact ⟨_, _, _, Or.inr ⟨eK, rfl⟩, by rw [eE]; exact ⟨hO, hNu⟩, fun z => absurd z eK, hF, (Fr.trans (hf1.wide (by omega) (by omega)) (Fr.trans (hfa.wide (by omega) (by omega)) (hf3.wide (by omega) (by omega))))⟩
            · skip
              by_cases cs23_6 : itm n f nx = 120
              · skip
                refine g_lookup (pc := 23) (a := itm n f nx) (off := 209) X 232 dX3_readOrder_23 (by omega) (by decide) (by rw [cs23_6]; decide) (by decide) ?_
                have hin2 := itm_in (n := n) (f := f) (p := nx) (by omega)
                refine g_aload_n (pc := 232) (pl := 0) X dX3_readOrder_232 rfl ?_
                refine g_dup (pc := 233) X dX3_readOrder_233 rfl ?_
                refine g_getf (pc := 234) X zF_X3_readOrder_20 hO rfl dX3_readOrder_234 ?_
                refine g_iconst (pc := 237) X dX3_readOrder_237 ?_
                refine g_iadd (pc := 238) X dX3_readOrder_238 ?_
                refine g_putf (pc := 239) X zW_X3_readOrder_20 hO (by omega) rfl rfl rfl dX3_readOrder_239 (fun H3 hOn hf3 => ?_)
                replace hNu := hNu.fr hf3 (by omega)
                replace hF := hF.fr hf3 (by omega)
                replace hO : Ob D w 3 [.int (J (nx + 1)), .int (J (itm n f nx)), .int (J lf), .ref (w + 1)] H3 := hOn
                clear hOn
                refine g_aload_n (pc := 242) (pl := 0) X dX3_readOrder_242 rfl ?_
                refine g_aload_n (pc := 243) (pl := 1) X dX3_readOrder_243 rfl ?_
                refine gVi (pc := 244) (n2 := 0) (k2 := 0) X cs_X3_readOrder_48 (c_X3_readNumber (zl K) D base w r (nx + 1) (itm n f nx) lf 0 n fn f hq hr hd (by omega) hf (by omega)) rfl hO (by omega) ⟨⟨hO, hNu⟩, hF⟩ rfl ⟨Nat.le_of_ble_eq_true rfl, Nat.le_of_ble_eq_true rfl⟩ dX3_readOrder_244 (Nat.le_of_ble_eq_true rfl) rfl rfl (fun v244 H4 hp244 hs244 => ?_)
                rcases hp244 with ⟨ha244, rfl, ⟨hO, hNu⟩, hF, hf244⟩ | ⟨ha244, rfl, rfl⟩
                · skip
                  have hb244 := num_bd ha244
                  refine g_zret (pc := 247) X R hH (by first | exact Or.inl rfl | exact Or.inr rfl | omega) dX3_readOrder_247 ?_
                  obtain ⟨eE, eK⟩ := o_one2 (by omega) ha244
                  exact ⟨_, _, _, Or.inl ⟨eK, rfl⟩, by rw [eE]; exact ⟨hO, hNu⟩, fun _ => ⟨by omega, rfl, fun z => by first | exact ⟨by omega, rfl⟩ | omega, fun z => by first | exact ⟨by omega, rfl⟩ | omega, fun z => by first | rfl | omega⟩, hF, (Fr.trans (hf1.wide (by omega) (by omega)) (Fr.trans (hfa.wide (by omega) (by omega)) (Fr.trans (hf3.wide (by omega) (by omega)) (hf244.wide (by omega) (by omega)))))⟩
                · skip
                  refine g_zret (pc := 247) X R hH (by first | exact Or.inl rfl | exact Or.inr rfl | omega) dX3_readOrder_247 ?_
                  obtain ⟨eE, eK⟩ := o_one1 (by omega) ha244
                  exact ⟨_, _, _, Or.inr ⟨eK, rfl⟩, by rw [eE]; exact ⟨hO, hNu⟩, fun z => absurd z eK, hF, (Fr.trans (hf1.wide (by omega) (by omega)) (Fr.trans (hfa.wide (by omega) (by omega)) (hf3.wide (by omega) (by omega))))⟩
              · skip
                refine g_lookup (pc := 23) (a := itm n f nx) (off := 225) X 248 dX3_readOrder_23 (by omega) (by decide) (by simp [Op.lookupswitch.offset, show ¬ ((43 : Int) = itm n f nx) from fun e => cs23_0 e.symm, show ¬ ((45 : Int) = itm n f nx) from fun e => cs23_1 e.symm, show ¬ ((99 : Int) = itm n f nx) from fun e => cs23_2 e.symm, show ¬ ((109 : Int) = itm n f nx) from fun e => cs23_3 e.symm, show ¬ ((110 : Int) = itm n f nx) from fun e => cs23_4 e.symm, show ¬ ((114 : Int) = itm n f nx) from fun e => cs23_5 e.symm, show ¬ ((120 : Int) = itm n f nx) from fun e => cs23_6 e.symm, cs23_0, cs23_1, cs23_2, cs23_3, cs23_4, cs23_5, cs23_6]) (by decide) ?_
                refine g_iconst (pc := 248) X dX3_readOrder_248 ?_
                refine g_zret (pc := 249) X R hH (by first | exact Or.inl rfl | exact Or.inr rfl | omega) dX3_readOrder_249 ?_
                obtain ⟨eE, eK⟩ := o_none (n := n) (f := f) (p := nx) (by omega)
                exact ⟨_, _, _, Or.inr ⟨eK, rfl⟩, by rw [eE]; exact ⟨hO, hNu⟩, fun z => absurd z eK, hF, (Fr.trans (hf1.wide (by omega) (by omega)) (hfa.wide (by omega) (by omega)))⟩

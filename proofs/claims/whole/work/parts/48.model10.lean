/-- what an order's row holds -/
def OrdA (n : Int) (f : Int → Int) (p od : Int) (R : Int → Int) : Prop :=
  R (4 * od) = itm n f p ∧ R (4 * od + 1) = oA n f p ∧ (itm n f p = 45 ∨ itm n f p = 109 ∨ itm n f p = 110 → R (4 * od + 2) = oB n f p) ∧ (itm n f p = 109 → R (4 * od + 3) = oC n f p) ∧ (itm n f p = 43 → R (4 * od + 2) = oe1 n f p + 1 ∧ R (4 * od + 3) = ordE n f p - (oe1 n f p + 1))
theorem OrdA.keep {n : Int} {f : Int → Int} {p j od : Int} {R R2 : Int → Int} (h : OrdA n f p j R) (hj : 0 ≤ j ∧ j < od) (e : ∀ i : Int, 0 ≤ i → i < 4 * od → R2 i = R i) : OrdA n f p j R2 := by
  unfold OrdA
  rw [e (4 * j) (by omega) (by omega), e (4 * j + 1) (by omega) (by omega), e (4 * j + 2) (by omega) (by omega), e (4 * j + 3) (by omega) (by omega)]
  exact h
/-- where the orders of a text begin -/
def pls (n : Int) (f : Int → Int) : Nat → Int
  | 0 => 0
  | k + 1 => nxP n f (pls n f k)
/-- k orders stand in the rows -/
def TxOk (n : Int) (f : Int → Int) (k : Nat) (R : Int → Int) : Prop := ∀ j : Nat, j < k → ordOk n f (pls n f j) ∧ OrdA n f (pls n f j) (j : Int) R

abbrev rm_X9_isNumber : Room := { frames := 2, cells := 0, slots := 0, locals := 44 }
theorem cs_X9_isNumber_209 : zCV RX9 wsX9_isNumber 209 9 yX9_isAt wsX9_isAt cX9_isAt 3 (some .boolean) rm_X9_isNumber rm_X9_isAt 2 := ⟨_, _, gX9_isNumber_X9_isAt, rfl, ⟨by decide +kernel, by decide +kernel, by decide +kernel⟩, ⟨Nat.le_of_ble_eq_true rfl, Nat.le_of_ble_eq_true rfl⟩, rfl, rfl⟩
theorem zF_X9_isNumber_23 : zF RX9 wsX9_isNumber 9 5 23 := ⟨RX9, TX9, 17, rfl, by decide +kernel, by decide, by decide +kernel⟩
theorem zF_X9_isNumber_206 : zF RX9 wsX9_isNumber 9 7 206 := ⟨RX9, TX9, 17, rfl, by decide +kernel, by decide, by decide +kernel⟩
theorem zW_X9_isNumber_206 : zW RX9 wsX9_isNumber 9 7 206 false (tyX9 7) := ⟨RX9, TX9, 17, tyX9, rfl, by decide +kernel, by decide, by decide +kernel, tyX9_ok, nmX9, rfl, rfl, rfl⟩
theorem zF_X9_isNumber_26 : zF RX9 wsX9_isNumber 9 8 26 := ⟨RX9, TX9, 17, rfl, by decide +kernel, by decide, by decide +kernel⟩
theorem zF_X9_isNumber_212 : zF RX9 wsX9_isNumber 9 9 212 := ⟨RX9, TX9, 17, rfl, by decide +kernel, by decide, by decide +kernel⟩
set_option maxRecDepth 100000 in
theorem c_X9_isNumber (l : Launch) (D : zD) (base : Nat) (y : Nat) (kp pd at' od fi la pc : Int) (f : Int → Int) (P W : Int → Int) (s : Int) (hq : base ≤ y) (hat : 0 ≤ at' ∧ at' ≤ pd ∧ pd ≤ 80) (hPr : ∀ i : Int, 0 ≤ i → i < pd → 33 ≤ P i ∧ P i ≤ 126) (hs : 0 ≤ s ∧ s < 4) (hod : 0 ≤ od ∧ od < 28) : Ct l yX9_isNumber wsX9_isNumber rm_X9_isNumber D base [.ref y, .int (J s)] (fun H => MoO D y kp pd at' od fi la pc H ∧ NwAt D y f H ∧ Ia D (y + 5) 80 P H ∧ Ia D (y + 6) 112 W H) (PI (fun H v H1 => (numOk pd P at' ∧ 1 = v ∧ MoO D y kp pd (numE pd P at') od fi la pc H1 ∧ NwAt D y f H1 ∧ Ia D (y + 5) 80 P H1 ∧ Ia D (y + 6) 112 (up W (4 * od + s) (numV pd P at')) H1 ∧ Fr (Un y (y + 1) (y + 6) (y + 7)) 0 H H1) ∨ (¬ numOk pd P at' ∧ 0 = v ∧ H = H1))) := by
  refine Ct.of (own := RX9) (cc := cX9_isNumber) (maxL := 3) (by decide +kernel) rfl (Nat.le_of_ble_eq_true rfl) rfl ?_
  intro K H X R hH hnm hP
  show G K 0 0 H 0 [(0, .ref y), (1, .int (J s))] []
  obtain ⟨hO, hNw, hPd, hOr⟩ := hP
  refine g_aload_n (pc := 0) (pl := 0) X dX9_isNumber_0 rfl ?_
  refine g_bipush (pc := 1) X dX9_isNumber_1 (by decide +kernel) ?_
  refine g_bipush (pc := 3) X dX9_isNumber_3 (by decide +kernel) ?_
  refine gVi (pc := 5) (n2 := 0) (k2 := 0) X cs_X9_isNumber_209 (c_X9_isAt (zl K) D base y kp pd at' od fi la pc f P 48 57 hq (by omega) hPr (by omega) (by omega)) rfl hO (by omega) ⟨hO, hNw, hPd⟩ rfl ⟨Nat.le_of_ble_eq_true rfl, Nat.le_of_ble_eq_true rfl⟩ dX9_isNumber_5 (Nat.le_of_ble_eq_true rfl) rfl rfl (fun v5 H1 hp5 hs5 => ?_)
  obtain ⟨rfl, rfl⟩ := hp5
  refine g_if_ne (pc := 8) X 13 dX9_isNumber_8 (by decide) (zbr _) (fun c8 => ?_) (fun c8 => ?_)
  · skip
    replace c8 := zb1 c8
    have hin := itm_in (n := pd) (f := P) (p := at') (by omega)
    have eI : itm pd P at' = P at' := if_pos (by omega)
    refine g_aload_n (pc := 13) (pl := 0) X dX9_isNumber_13 rfl ?_
    refine g_getf (pc := 14) X zF_X9_isNumber_23 hO rfl dX9_isNumber_14 ?_
    refine g_aload_n (pc := 17) (pl := 0) X dX9_isNumber_17 rfl ?_
    refine g_getf (pc := 18) X zF_X9_isNumber_206 hO rfl dX9_isNumber_18 ?_
    refine g_iaload (pc := 21) X hPd (by omega) (by omega) (by omega) dX9_isNumber_21 ?_
    refine g_bipush (pc := 22) X dX9_isNumber_22 (by decide +kernel) ?_
    refine g_isub (pc := 24) X dX9_isNumber_24 ?_
    refine g_istore_n (pc := 25) (lv' := [(2, _), (0, _), (1, _)]) X dX9_isNumber_25 (by decide) rfl ?_
    refine g_aload_n (pc := 26) (pl := 1) X dX9_isNumber_26 rfl ?_
    refine g_dup (pc := 27) X dX9_isNumber_27 rfl ?_
    refine g_getf (pc := 28) X zF_X9_isNumber_206 hO rfl dX9_isNumber_28 ?_
    refine g_iconst (pc := 31) X dX9_isNumber_31 ?_
    refine g_iadd (pc := 32) X dX9_isNumber_32 ?_
    refine g_putf (pc := 33) X zW_X9_isNumber_206 hO (by omega) rfl rfl rfl dX9_isNumber_33 (fun H1 hOn hf1 => ?_)
    replace hNw := hNw.fr hf1 (by omega)
    replace hPd := hPd.fr hf1 (by omega)
    replace hOr := hOr.fr hf1 (by omega)
    replace hO : Ob D y 9 [.ref (y + 1), .ref (y + 2), .int (J kp), .ref (y + 3), .ref (y + 4), .ref (y + 5), .int (J pd), .int (J (at' + 1)), .ref (y + 6), .int (J od), .int (J fi), .int (J la), .int (J pc), .ref (y + 7), .ref (y + 8), .ref (y + 9), .ref (y + 10)] H1 := hOn
    clear hOn
    refine g_iload_n (pc := 36) (pl := 0) X dX9_isNumber_36 rfl ?_
    refine g_if_le (pc := 37) X 79 dX9_isNumber_37 (by decide) (by omega) (fun c37 => ?_) (fun c37 => ?_)
    · skip
      refine g_aload_n (pc := 79) (pl := 1) X dX9_isNumber_79 rfl ?_
      refine g_getf (pc := 80) X zF_X9_isNumber_26 hO rfl dX9_isNumber_80 ?_
      refine g_iconst (pc := 83) X dX9_isNumber_83 ?_
      refine g_aload_n (pc := 84) (pl := 1) X dX9_isNumber_84 rfl ?_
      refine g_getf (pc := 85) X zF_X9_isNumber_212 hO rfl dX9_isNumber_85 ?_
      refine g_imul (pc := 88) X dX9_isNumber_88 ?_
      refine g_iload_n (pc := 89) (pl := 2) X dX9_isNumber_89 rfl ?_
      refine g_iadd (pc := 90) X dX9_isNumber_90 ?_
      refine g_iload_n (pc := 91) (pl := 0) X dX9_isNumber_91 rfl ?_
      refine g_iastore (pc := 92) X hOr (by omega) (by omega) (by omega) (by omega) dX9_isNumber_92 (fun H2 hOrn hf2 => ?_)
      replace hO := hO.fr hf2 (by omega)
      replace hNw := hNw.fr hf2 (by omega)
      replace hPd := hPd.fr hf2 (by omega)
      replace hOr := hOrn
      clear hOrn
      refine g_iconst (pc := 93) X dX9_isNumber_93 ?_
      refine g_zret (pc := 94) X R hH (by first | exact Or.inl rfl | exact Or.inr rfl | omega) dX9_isNumber_94 ?_
      have hn2 : ¬ num2 pd P at' := by first | exact fun z => z.1 (by omega) | exact fun z => c48 z.2
      have e1 : numE pd P at' = at' + 1 := if_neg hn2
      have e2 : numV pd P at' = P at' - 48 := (if_neg hn2).trans (by rw [eI])
      rw [e1, e2]
      exact Or.inl ⟨c8, rfl, hO, hNw, hPd, hOr, (Fr.trans (hf1.un (by omega)) (hf2.un (by omega)))⟩
    · skip
      refine g_aload_n (pc := 40) (pl := 1) X dX9_isNumber_40 rfl ?_
      refine g_bipush (pc := 41) X dX9_isNumber_41 (by decide +kernel) ?_
      refine g_bipush (pc := 43) X dX9_isNumber_43 (by decide +kernel) ?_
      refine gVi (pc := 45) (n2 := 0) (k2 := 0) X cs_X9_isNumber_209 (c_X9_isAt (zl K) D base y kp pd (at' + 1) od fi la pc f P 48 57 hq (by omega) hPr (by omega) (by omega)) rfl hO (by omega) ⟨hO, hNw, hPd⟩ rfl ⟨Nat.le_of_ble_eq_true rfl, Nat.le_of_ble_eq_true rfl⟩ dX9_isNumber_45 (Nat.le_of_ble_eq_true rfl) rfl rfl (fun v45 H2 hp45 hs45 => ?_)
      obtain ⟨rfl, rfl⟩ := hp45
      refine g_if_eq (pc := 48) X 79 dX9_isNumber_48 (by decide) (zbr _) (fun c48 => ?_) (fun c48 => ?_)
      · skip
        replace c48 := zb0 c48
        refine g_aload_n (pc := 79) (pl := 1) X dX9_isNumber_79 rfl ?_
        refine g_getf (pc := 80) X zF_X9_isNumber_26 hO rfl dX9_isNumber_80 ?_
        refine g_iconst (pc := 83) X dX9_isNumber_83 ?_
        refine g_aload_n (pc := 84) (pl := 1) X dX9_isNumber_84 rfl ?_
        refine g_getf (pc := 85) X zF_X9_isNumber_212 hO rfl dX9_isNumber_85 ?_
        refine g_imul (pc := 88) X dX9_isNumber_88 ?_
        refine g_iload_n (pc := 89) (pl := 2) X dX9_isNumber_89 rfl ?_
        refine g_iadd (pc := 90) X dX9_isNumber_90 ?_
        refine g_iload_n (pc := 91) (pl := 0) X dX9_isNumber_91 rfl ?_
        refine g_iastore (pc := 92) X hOr (by omega) (by omega) (by omega) (by omega) dX9_isNumber_92 (fun H2 hOrn hf2 => ?_)
        replace hO := hO.fr hf2 (by omega)
        replace hNw := hNw.fr hf2 (by omega)
        replace hPd := hPd.fr hf2 (by omega)
        replace hOr := hOrn
        clear hOrn
        refine g_iconst (pc := 93) X dX9_isNumber_93 ?_
        refine g_zret (pc := 94) X R hH (by first | exact Or.inl rfl | exact Or.inr rfl | omega) dX9_isNumber_94 ?_
        have hn2 : ¬ num2 pd P at' := by first | exact fun z => z.1 (by omega) | exact fun z => c48 z.2
        have e1 : numE pd P at' = at' + 1 := if_neg hn2
        have e2 : numV pd P at' = P at' - 48 := (if_neg hn2).trans (by rw [eI])
        rw [e1, e2]
        exact Or.inl ⟨c8, rfl, hO, hNw, hPd, hOr, (Fr.trans (hf1.un (by omega)) (hf2.un (by omega)))⟩
      · skip
        replace c48 := zb1 c48
        have hin2 := itm_in (n := pd) (f := P) (p := at' + 1) (by omega)
        have eI2 : itm pd P (at' + 1) = P (at' + 1) := if_pos (by omega)
        refine g_bipush (pc := 51) X dX9_isNumber_51 (by decide +kernel) ?_
        refine g_iload_n (pc := 53) (pl := 0) X dX9_isNumber_53 rfl ?_
        refine g_imul (pc := 54) X dX9_isNumber_54 ?_
        refine g_aload_n (pc := 55) (pl := 1) X dX9_isNumber_55 rfl ?_
        refine g_getf (pc := 56) X zF_X9_isNumber_23 hO rfl dX9_isNumber_56 ?_
        refine g_aload_n (pc := 59) (pl := 1) X dX9_isNumber_59 rfl ?_
        refine g_getf (pc := 60) X zF_X9_isNumber_206 hO rfl dX9_isNumber_60 ?_
        refine g_iaload (pc := 63) X hPd (by omega) (by omega) (by omega) dX9_isNumber_63 ?_
        refine g_iadd (pc := 64) X dX9_isNumber_64 ?_
        refine g_bipush (pc := 65) X dX9_isNumber_65 (by decide +kernel) ?_
        refine g_isub (pc := 67) X dX9_isNumber_67 ?_
        refine g_istore_n (pc := 68) (lv' := [(2, _), (0, _), (1, _)]) X dX9_isNumber_68 (by decide) rfl ?_
        refine g_aload_n (pc := 69) (pl := 1) X dX9_isNumber_69 rfl ?_
        refine g_dup (pc := 70) X dX9_isNumber_70 rfl ?_
        refine g_getf (pc := 71) X zF_X9_isNumber_206 hO rfl dX9_isNumber_71 ?_
        refine g_iconst (pc := 74) X dX9_isNumber_74 ?_
        refine g_iadd (pc := 75) X dX9_isNumber_75 ?_
        refine g_putf (pc := 76) X zW_X9_isNumber_206 hO (by omega) rfl rfl rfl dX9_isNumber_76 (fun H2 hOn hf2 => ?_)
        replace hNw := hNw.fr hf2 (by omega)
        replace hPd := hPd.fr hf2 (by omega)
        replace hOr := hOr.fr hf2 (by omega)
        replace hO : Ob D y 9 [.ref (y + 1), .ref (y + 2), .int (J kp), .ref (y + 3), .ref (y + 4), .ref (y + 5), .int (J pd), .int (J ((at' + 1) + 1)), .ref (y + 6), .int (J od), .int (J fi), .int (J la), .int (J pc), .ref (y + 7), .ref (y + 8), .ref (y + 9), .ref (y + 10)] H2 := hOn
        clear hOn
        refine g_aload_n (pc := 79) (pl := 1) X dX9_isNumber_79 rfl ?_
        refine g_getf (pc := 80) X zF_X9_isNumber_26 hO rfl dX9_isNumber_80 ?_
        refine g_iconst (pc := 83) X dX9_isNumber_83 ?_
        refine g_aload_n (pc := 84) (pl := 1) X dX9_isNumber_84 rfl ?_
        refine g_getf (pc := 85) X zF_X9_isNumber_212 hO rfl dX9_isNumber_85 ?_
        refine g_imul (pc := 88) X dX9_isNumber_88 ?_
        refine g_iload_n (pc := 89) (pl := 2) X dX9_isNumber_89 rfl ?_
        refine g_iadd (pc := 90) X dX9_isNumber_90 ?_
        refine g_iload_n (pc := 91) (pl := 0) X dX9_isNumber_91 rfl ?_
        refine g_iastore (pc := 92) X hOr (by omega) (by omega) (by omega) (by omega) dX9_isNumber_92 (fun H3 hOrn hf3 => ?_)
        replace hO := hO.fr hf3 (by omega)
        replace hNw := hNw.fr hf3 (by omega)
        replace hPd := hPd.fr hf3 (by omega)
        replace hOr := hOrn
        clear hOrn
        refine g_iconst (pc := 93) X dX9_isNumber_93 ?_
        refine g_zret (pc := 94) X R hH (by first | exact Or.inl rfl | exact Or.inr rfl | omega) dX9_isNumber_94 ?_
        have hn2 : num2 pd P at' := ⟨by omega, c48⟩
        have e1 : numE pd P at' = at' + 1 + 1 := (if_pos hn2).trans (by omega)
        have e2 : numV pd P at' = 10 * (P at' - 48) + P (at' + 1) - 48 := (if_pos hn2).trans (by rw [eI, eI2])
        rw [e1, e2]
        exact Or.inl ⟨c8, rfl, hO, hNw, hPd, hOr, (Fr.trans (hf1.un (by omega)) (Fr.trans (hf2.un (by omega)) (hf3.un (by omega))))⟩
  · skip
    replace c8 := zb0 c8
    refine g_iconst (pc := 11) X dX9_isNumber_11 ?_
    refine g_zret (pc := 12) X R hH (by first | exact Or.inl rfl | exact Or.inr rfl | omega) dX9_isNumber_12 ?_
    exact Or.inr ⟨c8, rfl, rfl⟩

abbrev rm_X9_isWord : Room := { frames := 2, cells := 0, slots := 0, locals := 44 }
theorem zF_X9_isWord_26 : zF RX9 wsX9_isWord 9 8 26 := ⟨RX9, TX9, 17, rfl, by decide +kernel, by decide, by decide +kernel⟩
theorem zF_X9_isWord_212 : zF RX9 wsX9_isWord 9 9 212 := ⟨RX9, TX9, 17, rfl, by decide +kernel, by decide, by decide +kernel⟩
theorem zF_X9_isWord_206 : zF RX9 wsX9_isWord 9 7 206 := ⟨RX9, TX9, 17, rfl, by decide +kernel, by decide, by decide +kernel⟩
theorem cs_X9_isWord_209 : zCV RX9 wsX9_isWord 209 9 yX9_isAt wsX9_isAt cX9_isAt 3 (some .boolean) rm_X9_isWord rm_X9_isAt 2 := ⟨_, _, gX9_isWord_X9_isAt, rfl, ⟨by decide +kernel, by decide +kernel, by decide +kernel⟩, ⟨Nat.le_of_ble_eq_true rfl, Nat.le_of_ble_eq_true rfl⟩, rfl, rfl⟩
theorem zW_X9_isWord_206 : zW RX9 wsX9_isWord 9 7 206 false (tyX9 7) := ⟨RX9, TX9, 17, tyX9, rfl, by decide +kernel, by decide, by decide +kernel, tyX9_ok, nmX9, rfl, rfl, rfl⟩
set_option maxRecDepth 100000 in
theorem c_X9_isWord (l : Launch) (D : zD) (base : Nat) (y : Nat) (kp pd at' od fi la pc : Int) (f : Int → Int) (P W : Int → Int) (hq : base ≤ y) (hat : 0 ≤ at' ∧ at' ≤ pd ∧ pd ≤ 80) (hPr : ∀ i : Int, 0 ≤ i → i < pd → 33 ≤ P i ∧ P i ≤ 126) (hod : 0 ≤ od ∧ od < 28) : Ct l yX9_isWord wsX9_isWord rm_X9_isWord D base [.ref y] (fun H => MoO D y kp pd at' od fi la pc H ∧ NwAt D y f H ∧ Ia D (y + 5) 80 P H ∧ Ia D (y + 6) 112 W H) (PI (fun H v H1 => (at' < (ltE pd P at') ∧ 1 = v ∨ ¬ at' < (ltE pd P at') ∧ 0 = v) ∧ MoO D y kp pd (ltE pd P at') od fi la pc H1 ∧ NwAt D y f H1 ∧ Ia D (y + 5) 80 P H1 ∧ Ia D (y + 6) 112 (up (up W (4 * od + 2) at') (4 * od + 3) ((ltE pd P at') - at')) H1 ∧ Fr (Un y (y + 1) (y + 6) (y + 7)) 0 H H1)) := by
  refine Ct.of (own := RX9) (cc := cX9_isWord) (maxL := 1) (by decide +kernel) rfl (Nat.le_of_ble_eq_true rfl) rfl ?_
  intro K H X R hH hnm hP
  show G K 0 0 H 0 [(0, .ref y)] []
  obtain ⟨hO, hNw, hPd, hOr⟩ := hP
  refine g_aload_n (pc := 0) (pl := 0) X dX9_isWord_0 rfl ?_
  refine g_getf (pc := 1) X zF_X9_isWord_26 hO rfl dX9_isWord_1 ?_
  refine g_iconst (pc := 4) X dX9_isWord_4 ?_
  refine g_aload_n (pc := 5) (pl := 0) X dX9_isWord_5 rfl ?_
  refine g_getf (pc := 6) X zF_X9_isWord_212 hO rfl dX9_isWord_6 ?_
  refine g_imul (pc := 9) X dX9_isWord_9 ?_
  refine g_iconst (pc := 10) X dX9_isWord_10 ?_
  refine g_iadd (pc := 11) X dX9_isWord_11 ?_
  refine g_aload_n (pc := 12) (pl := 0) X dX9_isWord_12 rfl ?_
  refine g_getf (pc := 13) X zF_X9_isWord_206 hO rfl dX9_isWord_13 ?_
  refine g_iastore (pc := 16) X hOr (by omega) (by omega) (by omega) (by omega) dX9_isWord_16 (fun H1 hOrn hf1 => ?_)
  replace hO := hO.fr hf1 (by omega)
  replace hNw := hNw.fr hf1 (by omega)
  replace hPd := hPd.fr hf1 (by omega)
  replace hOr := hOrn
  clear hOrn
  have hL17 : ∀ (fu : Nat) (k : Nat) (z : Int) (Hx : Heap), (pd - at').toNat - k < fu → (at' + (k : Int) ≤ pd) → (z = at' + (k : Int)) → (∀ i : Int, 0 ≤ i → i < k → isL (itm pd P (at' + i))) → (MoO D y kp pd z od fi la pc Hx) → (NwAt D y f Hx) → (Ia D (y + 5) 80 P Hx) → (Ia D (y + 6) 112 (up W (4 * od + 2) at') Hx) → (Fr (Un y (y + 1) (y + 6) (y + 7)) 0 H Hx) → G K 0 0 Hx 17 [(0, .ref y)] [] := by
    intro fu
    induction fu with
    | zero => intro k z Hx hm; exact absurd hm (Nat.not_lt_zero _)
    | succ fu ih17 =>
      intro k z Hx hm h1 he h2 hO hNw hPd hOr hu3
      subst he
      refine g_aload_n (pc := 17) (pl := 0) X dX9_isWord_17 rfl ?_
      refine g_bipush (pc := 18) X dX9_isWord_18 (by decide +kernel) ?_
      refine g_bipush (pc := 20) X dX9_isWord_20 (by decide +kernel) ?_
      refine gVi (pc := 22) (n2 := 0) (k2 := 0) X cs_X9_isWord_209 (c_X9_isAt (zl K) D base y kp pd (at' + (k : Int)) od fi la pc f P 97 122 hq (by omega) hPr (by omega) (by omega)) rfl hO (by omega) ⟨hO, hNw, hPd⟩ rfl ⟨Nat.le_of_ble_eq_true rfl, Nat.le_of_ble_eq_true rfl⟩ dX9_isWord_22 (Nat.le_of_ble_eq_true rfl) rfl rfl (fun v22 H2 hp22 hs22 => ?_)
      obtain ⟨rfl, rfl⟩ := hp22
      refine g_if_eq (pc := 25) X 41 dX9_isWord_25 (by decide) (zbr _) (fun c25 => ?_) (fun c25 => ?_)
      · skip
        replace c25 := zb0 c25
        refine g_aload_n (pc := 41) (pl := 0) X dX9_isWord_41 rfl ?_
        refine g_getf (pc := 42) X zF_X9_isWord_26 hO rfl dX9_isWord_42 ?_
        refine g_iconst (pc := 45) X dX9_isWord_45 ?_
        refine g_aload_n (pc := 46) (pl := 0) X dX9_isWord_46 rfl ?_
        refine g_getf (pc := 47) X zF_X9_isWord_212 hO rfl dX9_isWord_47 ?_
        refine g_imul (pc := 50) X dX9_isWord_50 ?_
        refine g_iconst (pc := 51) X dX9_isWord_51 ?_
        refine g_iadd (pc := 52) X dX9_isWord_52 ?_
        refine g_aload_n (pc := 53) (pl := 0) X dX9_isWord_53 rfl ?_
        refine g_getf (pc := 54) X zF_X9_isWord_206 hO rfl dX9_isWord_54 ?_
        refine g_aload_n (pc := 57) (pl := 0) X dX9_isWord_57 rfl ?_
        refine g_getf (pc := 58) X zF_X9_isWord_26 hO rfl dX9_isWord_58 ?_
        refine g_iconst (pc := 61) X dX9_isWord_61 ?_
        refine g_aload_n (pc := 62) (pl := 0) X dX9_isWord_62 rfl ?_
        refine g_getf (pc := 63) X zF_X9_isWord_212 hO rfl dX9_isWord_63 ?_
        refine g_imul (pc := 66) X dX9_isWord_66 ?_
        refine g_iconst (pc := 67) X dX9_isWord_67 ?_
        refine g_iadd (pc := 68) X dX9_isWord_68 ?_
        refine g_iaload (pc := 69) X hOr (by omega) (by omega) (by omega) dX9_isWord_69 ?_
        rw [show (up W (4 * od + 2) at') ((4 * od) + 2) = at' from (if_pos rfl)]
        refine g_isub (pc := 70) X dX9_isWord_70 ?_
        refine g_iastore (pc := 71) X hOr (by omega) (by omega) (by omega) (by omega) dX9_isWord_71 (fun H2 hOrn hf2 => ?_)
        replace hO := hO.fr hf2 (by omega)
        replace hNw := hNw.fr hf2 (by omega)
        replace hPd := hPd.fr hf2 (by omega)
        replace hOr := hOrn
        clear hOrn
        refine g_aload_n (pc := 72) (pl := 0) X dX9_isWord_72 rfl ?_
        refine g_getf (pc := 73) X zF_X9_isWord_26 hO rfl dX9_isWord_73 ?_
        refine g_iconst (pc := 76) X dX9_isWord_76 ?_
        refine g_aload_n (pc := 77) (pl := 0) X dX9_isWord_77 rfl ?_
        refine g_getf (pc := 78) X zF_X9_isWord_212 hO rfl dX9_isWord_78 ?_
        refine g_imul (pc := 81) X dX9_isWord_81 ?_
        refine g_iconst (pc := 82) X dX9_isWord_82 ?_
        refine g_iadd (pc := 83) X dX9_isWord_83 ?_
        refine g_iaload (pc := 84) X hOr (by omega) (by omega) (by omega) dX9_isWord_84 ?_
        rw [show (up (up W (4 * od + 2) at') ((4 * od) + 3) ((at' + (k : Int)) - at')) ((4 * od) + 3) = at' + (k : Int) - at' from (if_pos rfl)]
        refine g_if_le (pc := 85) X 92 dX9_isWord_85 (by decide) (by omega) (fun c85 => ?_) (fun c85 => ?_)
        · skip
          refine g_iconst (pc := 92) X dX9_isWord_92 ?_
          refine g_zret (pc := 93) X R hH (by first | exact Or.inl rfl | exact Or.inr rfl | omega) dX9_isWord_93 ?_
          have e1 : (k : Int) = (lead (fun i => decide (isL (itm pd P (at' + i)))) (pd - at').toNat : Int) := lead_eq (by omega) (by omega) (fun i a b => decide_eq_true (h2 i a b)) (Or.inr (fun q => c25 (of_decide_eq_true q)))
          have e2 : (ltE pd P at') = at' + (k : Int) := by unfold ltE; rw [e1]
          rw [e2]
          exact ⟨by omega, hO, hNw, hPd, hOr, (Fr.trans hu3 (hf2.un (by omega)))⟩
        · skip
          refine g_iconst (pc := 88) X dX9_isWord_88 ?_
          refine g_goto (pc := 89) X 93 dX9_isWord_89 (by decide) ?_
          refine g_zret (pc := 93) X R hH (by first | exact Or.inl rfl | exact Or.inr rfl | omega) dX9_isWord_93 ?_
          have e1 : (k : Int) = (lead (fun i => decide (isL (itm pd P (at' + i)))) (pd - at').toNat : Int) := lead_eq (by omega) (by omega) (fun i a b => decide_eq_true (h2 i a b)) (Or.inr (fun q => c25 (of_decide_eq_true q)))
          have e2 : (ltE pd P at') = at' + (k : Int) := by unfold ltE; rw [e1]
          rw [e2]
          exact ⟨by omega, hO, hNw, hPd, hOr, (Fr.trans hu3 (hf2.un (by omega)))⟩
      · skip
        replace c25 := zb1 c25
        have hin := itm_in (n := pd) (f := P) (p := at' + (k : Int)) (by omega)
        refine g_aload_n (pc := 28) (pl := 0) X dX9_isWord_28 rfl ?_
        refine g_dup (pc := 29) X dX9_isWord_29 rfl ?_
        refine g_getf (pc := 30) X zF_X9_isWord_206 hO rfl dX9_isWord_30 ?_
        refine g_iconst (pc := 33) X dX9_isWord_33 ?_
        refine g_iadd (pc := 34) X dX9_isWord_34 ?_
        refine g_putf (pc := 35) X zW_X9_isWord_206 hO (by omega) rfl rfl rfl dX9_isWord_35 (fun H2 hOn hf2 => ?_)
        replace hNw := hNw.fr hf2 (by omega)
        replace hPd := hPd.fr hf2 (by omega)
        replace hOr := hOr.fr hf2 (by omega)
        replace hO : Ob D y 9 [.ref (y + 1), .ref (y + 2), .int (J kp), .ref (y + 3), .ref (y + 4), .ref (y + 5), .int (J pd), .int (J ((at' + (k : Int)) + 1)), .ref (y + 6), .int (J od), .int (J fi), .int (J la), .int (J pc), .ref (y + 7), .ref (y + 8), .ref (y + 9), .ref (y + 10)] H2 := hOn
        clear hOn
        refine g_goto (pc := 38) X 17 dX9_isWord_38 (by decide) ?_
        refine G.pick [0] (lv' := [(0, _)]) rfl ?_
        exact ih17 (k + 1) _ H2 (by omega) (by omega) (by omega) (fun i h0 h1 => by rcases Int.lt_or_le i (k : Int) with c | c; exact h2 i h0 c; rw [show i = (k : Int) by omega]; exact c25) hO hNw hPd hOr (Fr.trans hu3 (hf2.un (by omega)))
  refine G.pick [0] (lv' := [(0, _)]) rfl ?_
  exact hL17 _ 0 _ H1 (Nat.lt_succ_self _) (by omega) (by omega) (fun i h0 h1 => by omega) hO hNw hPd hOr (hf1.un (by omega))

abbrev rm_X9_isSpan : Room := { frames := 3, cells := 0, slots := 0, locals := 66 }
theorem cs_X9_isSpan_215 : zCV RX9 wsX9_isSpan 215 9 yX9_isNumber wsX9_isNumber cX9_isNumber 3 (some .boolean) rm_X9_isSpan rm_X9_isNumber 1 := ⟨_, _, gX9_isSpan_X9_isNumber, rfl, ⟨by decide +kernel, by decide +kernel, by decide +kernel⟩, ⟨Nat.le_of_ble_eq_true rfl, Nat.le_of_ble_eq_true rfl⟩, rfl, rfl⟩
theorem cs_X9_isSpan_218 : zCV RX9 wsX9_isSpan 218 9 yX9_isSign wsX9_isSign cX9_isSign 3 (some .boolean) rm_X9_isSpan rm_X9_isSign 1 := ⟨_, _, gX9_isSpan_X9_isSign, rfl, ⟨by decide +kernel, by decide +kernel, by decide +kernel⟩, ⟨Nat.le_of_ble_eq_true rfl, Nat.le_of_ble_eq_true rfl⟩, rfl, rfl⟩
set_option maxRecDepth 100000 in
theorem c_X9_isSpan (l : Launch) (D : zD) (base : Nat) (y : Nat) (kp pd at' od fi la pc : Int) (f : Int → Int) (P W : Int → Int) (p : Int) (hq : base ≤ y) (hat : 0 ≤ at' ∧ at' ≤ pd ∧ pd ≤ 80) (hPr : ∀ i : Int, 0 ≤ i → i < pd → 33 ≤ P i ∧ P i ≤ 126) (hod : 0 ≤ od ∧ od < 28) (hpe : at' = p + 1) (hp : 0 ≤ p) : Ct l yX9_isSpan wsX9_isSpan rm_X9_isSpan D base [.ref y] (fun H => MoO D y kp pd at' od fi la pc H ∧ NwAt D y f H ∧ Ia D (y + 5) 80 P H ∧ Ia D (y + 6) 112 W H) (PI (fun H v H1 => ((spanOk pd P p ∧ 1 = v ∧ Ia D (y + 6) 112 (up (up W (4 * od + 1) (oA pd P p)) (4 * od + 2) (oB pd P p)) H1) ∨ (¬ spanOk pd P p ∧ 0 = v ∧ ∃ R2 : Int → Int, Ia D (y + 6) 112 R2 H1)) ∧ MoO D y kp pd (spanE pd P p) od fi la pc H1 ∧ NwAt D y f H1 ∧ Ia D (y + 5) 80 P H1 ∧ Fr (Un y (y + 1) (y + 6) (y + 7)) 0 H H1)) := by
  refine Ct.of (own := RX9) (cc := cX9_isSpan) (maxL := 1) (by decide +kernel) rfl (Nat.le_of_ble_eq_true rfl) rfl ?_
  intro K H X R hH hnm hP
  show G K 0 0 H 0 [(0, .ref y)] []
  obtain ⟨hO, hNw, hPd, hOr⟩ := hP
  subst hpe
  refine g_aload_n (pc := 0) (pl := 0) X dX9_isSpan_0 rfl ?_
  refine g_iconst (pc := 1) X dX9_isSpan_1 ?_
  refine gVi (pc := 2) (n2 := 0) (k2 := 0) X cs_X9_isSpan_215 (c_X9_isNumber (zl K) D base y kp pd (p + 1) od fi la pc f P W 1 hq (by omega) hPr (by omega) (by omega)) rfl hO (by omega) ⟨hO, hNw, hPd, hOr⟩ rfl ⟨Nat.le_of_ble_eq_true rfl, Nat.le_of_ble_eq_true rfl⟩ dX9_isSpan_2 (Nat.le_of_ble_eq_true rfl) rfl rfl (fun v2 H1 hp2 hs2 => ?_)
  rcases hp2 with ⟨ha2, rfl, hO, hNw, hPd, hOr, hu2⟩ | ⟨ha2, rfl, rfl⟩
  · skip
    have hb2 := num_bd ha2
    refine g_if_eq (pc := 5) X 29 dX9_isSpan_5 (by decide) (by omega) (fun c5 => ?_) (fun c5 => ?_)
    · skip
      exact absurd c5 (by decide)
    · skip
      refine g_aload_n (pc := 8) (pl := 0) X dX9_isSpan_8 rfl ?_
      refine g_bipush (pc := 9) X dX9_isSpan_9 (by decide +kernel) ?_
      refine gVi (pc := 11) (n2 := 0) (k2 := 0) X cs_X9_isSpan_218 (c_X9_isSign (zl K) D base y kp pd (numE pd P (p + 1)) od fi la pc f P 45 hq (by omega) hPr (by omega)) rfl hO (by omega) ⟨hO, hNw, hPd⟩ rfl ⟨Nat.le_of_ble_eq_true rfl, Nat.le_of_ble_eq_true rfl⟩ dX9_isSpan_11 (Nat.le_of_ble_eq_true rfl) rfl rfl (fun v11 H2 hp11 hs11 => ?_)
      rcases hp11 with ⟨ha11, rfl, hO, hNw, hPd, hf11⟩ | ⟨ha11, rfl, hO, hNw, hPd, hf11⟩
      · skip
        have hb11 := itm_in (n := pd) (f := P) (p := numE pd P (p + 1)) (by omega)
        replace hOr := hOr.fr hf11 (by omega)
        refine g_if_eq (pc := 14) X 29 dX9_isSpan_14 (by decide) (by omega) (fun c14 => ?_) (fun c14 => ?_)
        · skip
          exact absurd c14 (by decide)
        · skip
          refine g_aload_n (pc := 17) (pl := 0) X dX9_isSpan_17 rfl ?_
          refine g_iconst (pc := 18) X dX9_isSpan_18 ?_
          refine gVi (pc := 19) (n2 := 0) (k2 := 0) X cs_X9_isSpan_215 (c_X9_isNumber (zl K) D base y kp pd (numE pd P (p + 1) + 1) od fi la pc f P (up W (4 * od + 1) (numV pd P (p + 1))) 2 hq (by omega) hPr (by omega) (by omega)) rfl hO (by omega) ⟨hO, hNw, hPd, hOr⟩ rfl ⟨Nat.le_of_ble_eq_true rfl, Nat.le_of_ble_eq_true rfl⟩ dX9_isSpan_19 (Nat.le_of_ble_eq_true rfl) rfl rfl (fun v19 H3 hp19 hs19 => ?_)
          rcases hp19 with ⟨ha19, rfl, hO, hNw, hPd, hOr, hu19⟩ | ⟨ha19, rfl, rfl⟩
          · skip
            have hb19 := num_bd ha19
            refine g_if_eq (pc := 22) X 29 dX9_isSpan_22 (by decide) (by omega) (fun c22 => ?_) (fun c22 => ?_)
            · skip
              exact absurd c22 (by decide)
            · skip
              refine g_iconst (pc := 25) X dX9_isSpan_25 ?_
              refine g_goto (pc := 26) X 30 dX9_isSpan_26 (by decide) ?_
              refine g_zret (pc := 30) X R hH (by first | exact Or.inl rfl | exact Or.inr rfl | omega) dX9_isSpan_30 ?_
              obtain ⟨eE, eS⟩ := s_4 (n := pd) (f := P) (p := p) ha2 ha11 ha19
              rw [eE]
              exact ⟨Or.inl ⟨eS, rfl, hOr⟩, hO, hNw, hPd, (Fr.trans hu2 (Fr.trans (hf11.un (by omega)) hu19))⟩
          · skip
            refine g_if_eq (pc := 22) X 29 dX9_isSpan_22 (by decide) (by omega) (fun c22 => ?_) (fun c22 => ?_)
            · skip
              refine g_iconst (pc := 29) X dX9_isSpan_29 ?_
              refine g_zret (pc := 30) X R hH (by first | exact Or.inl rfl | exact Or.inr rfl | omega) dX9_isSpan_30 ?_
              obtain ⟨eE, eS⟩ := s_3 (n := pd) (f := P) (p := p) ha2 ha11 ha19
              rw [eE]
              exact ⟨Or.inr ⟨eS, rfl, ⟨_, hOr⟩⟩, hO, hNw, hPd, (Fr.trans hu2 (hf11.un (by omega)))⟩
            · skip
              exact absurd (by decide) c22
      · skip
        replace hOr := hOr.fr hf11 (by omega)
        refine g_if_eq (pc := 14) X 29 dX9_isSpan_14 (by decide) (by omega) (fun c14 => ?_) (fun c14 => ?_)
        · skip
          refine g_iconst (pc := 29) X dX9_isSpan_29 ?_
          refine g_zret (pc := 30) X R hH (by first | exact Or.inl rfl | exact Or.inr rfl | omega) dX9_isSpan_30 ?_
          obtain ⟨eE, eS⟩ := s_2 (n := pd) (f := P) (p := p) ha2 ha11
          rw [eE]
          exact ⟨Or.inr ⟨eS, rfl, ⟨_, hOr⟩⟩, hO, hNw, hPd, (Fr.trans hu2 (hf11.un (by omega)))⟩
        · skip
          exact absurd (by decide) c14
  · skip
    refine g_if_eq (pc := 5) X 29 dX9_isSpan_5 (by decide) (by omega) (fun c5 => ?_) (fun c5 => ?_)
    · skip
      refine g_iconst (pc := 29) X dX9_isSpan_29 ?_
      refine g_zret (pc := 30) X R hH (by first | exact Or.inl rfl | exact Or.inr rfl | omega) dX9_isSpan_30 ?_
      obtain ⟨eE, eS⟩ := s_1 (n := pd) (f := P) (p := p) ha2
      rw [eE]
      exact ⟨Or.inr ⟨eS, rfl, ⟨_, hOr⟩⟩, hO, hNw, hPd, (Fr.refl _ _)⟩
    · skip
      exact absurd (by decide) c5

abbrev rm_X9_isOrder : Room := { frames := 4, cells := 0, slots := 0, locals := 86 }
theorem zF_X9_isOrder_206 : zF RX9 wsX9_isOrder 9 7 206 := ⟨RX9, TX9, 17, rfl, by decide +kernel, by decide, by decide +kernel⟩
theorem zF_X9_isOrder_186 : zF RX9 wsX9_isOrder 9 6 186 := ⟨RX9, TX9, 17, rfl, by decide +kernel, by decide, by decide +kernel⟩
theorem zF_X9_isOrder_26 : zF RX9 wsX9_isOrder 9 8 26 := ⟨RX9, TX9, 17, rfl, by decide +kernel, by decide, by decide +kernel⟩
theorem zF_X9_isOrder_212 : zF RX9 wsX9_isOrder 9 9 212 := ⟨RX9, TX9, 17, rfl, by decide +kernel, by decide, by decide +kernel⟩
theorem zW_X9_isOrder_206 : zW RX9 wsX9_isOrder 9 7 206 false (tyX9 7) := ⟨RX9, TX9, 17, tyX9, rfl, by decide +kernel, by decide, by decide +kernel, tyX9_ok, nmX9, rfl, rfl, rfl⟩
theorem cs_X9_isOrder_215 : zCV RX9 wsX9_isOrder 215 9 yX9_isNumber wsX9_isNumber cX9_isNumber 3 (some .boolean) rm_X9_isOrder rm_X9_isNumber 1 := ⟨_, _, gX9_isOrder_X9_isNumber, rfl, ⟨by decide +kernel, by decide +kernel, by decide +kernel⟩, ⟨Nat.le_of_ble_eq_true rfl, Nat.le_of_ble_eq_true rfl⟩, rfl, rfl⟩
theorem cs_X9_isOrder_218 : zCV RX9 wsX9_isOrder 218 9 yX9_isSign wsX9_isSign cX9_isSign 3 (some .boolean) rm_X9_isOrder rm_X9_isSign 1 := ⟨_, _, gX9_isOrder_X9_isSign, rfl, ⟨by decide +kernel, by decide +kernel, by decide +kernel⟩, ⟨Nat.le_of_ble_eq_true rfl, Nat.le_of_ble_eq_true rfl⟩, rfl, rfl⟩
theorem cs_X9_isOrder_221 : zCV RX9 wsX9_isOrder 221 9 yX9_isWord wsX9_isWord cX9_isWord 1 (some .boolean) rm_X9_isOrder rm_X9_isWord 0 := ⟨_, _, gX9_isOrder_X9_isWord, rfl, ⟨by decide +kernel, by decide +kernel, by decide +kernel⟩, ⟨Nat.le_of_ble_eq_true rfl, Nat.le_of_ble_eq_true rfl⟩, rfl, rfl⟩
theorem cs_X9_isOrder_225 : zCV RX9 wsX9_isOrder 225 9 yX9_isSpan wsX9_isSpan cX9_isSpan 1 (some .boolean) rm_X9_isOrder rm_X9_isSpan 0 := ⟨_, _, gX9_isOrder_X9_isSpan, rfl, ⟨by decide +kernel, by decide +kernel, by decide +kernel⟩, ⟨Nat.le_of_ble_eq_true rfl, Nat.le_of_ble_eq_true rfl⟩, rfl, rfl⟩
theorem zF_X9_isOrder_23 : zF RX9 wsX9_isOrder 9 5 23 := ⟨RX9, TX9, 17, rfl, by decide +kernel, by decide, by decide +kernel⟩
set_option maxRecDepth 100000 in
set_option maxHeartbeats 4000000 in
theorem c_X9_isOrder (l : Launch) (D : zD) (base : Nat) (y : Nat) (kp pd at' od fi la pc : Int) (f : Int → Int) (P W : Int → Int) (hq : base ≤ y) (hat : 0 ≤ at' ∧ at' ≤ pd ∧ pd ≤ 80) (hPr : ∀ i : Int, 0 ≤ i → i < pd → 33 ≤ P i ∧ P i ≤ 126) (hod : 0 ≤ od ∧ od < 28) : Ct l yX9_isOrder wsX9_isOrder rm_X9_isOrder D base [.ref y] (fun H => MoO D y kp pd at' od fi la pc H ∧ NwAt D y f H ∧ Ia D (y + 5) 80 P H ∧ Ia D (y + 6) 112 W H) (PI (fun H v H1 => ∃ R2 : Int → Int, ((ordOk pd P at' ∧ 1 = v ∧ (∀ i : Int, 0 ≤ i → i < 4 * od → R2 i = W i) ∧ OrdA pd P at' od R2) ∨ (¬ ordOk pd P at' ∧ 0 = v)) ∧ MoO D y kp pd (ordE pd P at') od fi la pc H1 ∧ NwAt D y f H1 ∧ Ia D (y + 5) 80 P H1 ∧ Ia D (y + 6) 112 R2 H1 ∧ Fr (Un y (y + 1) (y + 6) (y + 7)) 0 H H1)) := by
  refine Ct.of (own := RX9) (cc := cX9_isOrder) (maxL := 2) (by decide +kernel) rfl (Nat.le_of_ble_eq_true rfl) rfl ?_
  intro K H X R hH hnm hP
  show G K 0 0 H 0 [(0, .ref y)] []
  obtain ⟨hO, hNw, hPd, hOr⟩ := hP
  refine g_aload_n (pc := 0) (pl := 0) X dX9_isOrder_0 rfl ?_
  refine g_getf (pc := 1) X zF_X9_isOrder_206 hO rfl dX9_isOrder_1 ?_
  refine g_aload_n (pc := 4) (pl := 0) X dX9_isOrder_4 rfl ?_
  refine g_getf (pc := 5) X zF_X9_isOrder_186 hO rfl dX9_isOrder_5 ?_
  refine g_icmp_ge (pc := 8) X 23 dX9_isOrder_8 (by decide) (by omega) (by omega) (fun c8 => ?_) (fun c8 => ?_)
  · skip
    refine g_iconst (pc := 23) X dX9_isOrder_23 ?_
    obtain ⟨sv, hsv0⟩ : ∃ z : Int, (0 : Int) = z := ⟨_, rfl⟩
    rw [show J 0 = J sv by rw [hsv0]]
    have eI : itm pd P at' = -1 := if_neg (by omega)
    have hsr : (sv = itm pd P at' ∨ (sv = 0 ∧ itm pd P at' = -1)) ∧ 0 ≤ sv ∧ sv ≤ 126 := by omega
    refine g_istore_n (pc := 24) (lv' := [(1, _), (0, _)]) X dX9_isOrder_24 (by decide) rfl ?_
    refine g_aload_n (pc := 25) (pl := 1) X dX9_isOrder_25 rfl ?_
    refine g_getf (pc := 26) X zF_X9_isOrder_26 hO rfl dX9_isOrder_26 ?_
    refine g_iconst (pc := 29) X dX9_isOrder_29 ?_
    refine g_aload_n (pc := 30) (pl := 1) X dX9_isOrder_30 rfl ?_
    refine g_getf (pc := 31) X zF_X9_isOrder_212 hO rfl dX9_isOrder_31 ?_
    refine g_imul (pc := 34) X dX9_isOrder_34 ?_
    refine g_iload_n (pc := 35) (pl := 0) X dX9_isOrder_35 rfl ?_
    refine g_iastore (pc := 36) X hOr (by omega) (by omega) (by omega) (by omega) dX9_isOrder_36 (fun H1 hOrn hf1 => ?_)
    replace hO := hO.fr hf1 (by omega)
    replace hNw := hNw.fr hf1 (by omega)
    replace hPd := hPd.fr hf1 (by omega)
    replace hOr := hOrn
    clear hOrn
    refine g_iload_n (pc := 37) (pl := 0) X dX9_isOrder_37 rfl ?_
    by_cases cs38_0 : sv = 43
    · skip
      refine g_lookup (pc := 38) (a := sv) (off := 66) X 104 dX9_isOrder_38 (by omega) (by decide) (by rw [cs38_0]; decide) (by decide) ?_
      have hin2 := itm_in (n := pd) (f := P) (p := at') (by omega)
      refine g_aload_n (pc := 104) (pl := 1) X dX9_isOrder_104 rfl ?_
      refine g_dup (pc := 105) X dX9_isOrder_105 rfl ?_
      refine g_getf (pc := 106) X zF_X9_isOrder_206 hO rfl dX9_isOrder_106 ?_
      refine g_iconst (pc := 109) X dX9_isOrder_109 ?_
      refine g_iadd (pc := 110) X dX9_isOrder_110 ?_
      refine g_putf (pc := 111) X zW_X9_isOrder_206 hO (by omega) rfl rfl rfl dX9_isOrder_111 (fun H2 hOn hf2 => ?_)
      replace hNw := hNw.fr hf2 (by omega)
      replace hPd := hPd.fr hf2 (by omega)
      replace hOr := hOr.fr hf2 (by omega)
      replace hO : Ob D y 9 [.ref (y + 1), .ref (y + 2), .int (J kp), .ref (y + 3), .ref (y + 4), .ref (y + 5), .int (J pd), .int (J (at' + 1)), .ref (y + 6), .int (J od), .int (J fi), .int (J la), .int (J pc), .ref (y + 7), .ref (y + 8), .ref (y + 9), .ref (y + 10)] H2 := hOn
      clear hOn
      refine g_aload_n (pc := 114) (pl := 1) X dX9_isOrder_114 rfl ?_
      refine g_iconst (pc := 115) X dX9_isOrder_115 ?_
      refine gVi (pc := 116) (n2 := 0) (k2 := 0) X cs_X9_isOrder_215 (c_X9_isNumber (zl K) D base y kp pd (at' + 1) od fi la pc f P (up W (4 * od) sv) 1 hq (by omega) hPr (by omega) (by omega)) rfl hO (by omega) ⟨hO, hNw, hPd, hOr⟩ rfl ⟨Nat.le_of_ble_eq_true rfl, Nat.le_of_ble_eq_true rfl⟩ dX9_isOrder_116 (Nat.le_of_ble_eq_true rfl) rfl rfl (fun v116 H3 hp116 hs116 => ?_)
      rcases hp116 with ⟨ha116, rfl, hO, hNw, hPd, hOr, hu116⟩ | ⟨ha116, rfl, rfl⟩
      · skip
        have hb116 := num_bd ha116
        refine g_if_eq (pc := 119) X 142 dX9_isOrder_119 (by decide) (by omega) (fun c119 => ?_) (fun c119 => ?_)
        · skip
          exact absurd c119 (by decide)
        · skip
          refine g_aload_n (pc := 122) (pl := 1) X dX9_isOrder_122 rfl ?_
          refine g_bipush (pc := 123) X dX9_isOrder_123 (by decide +kernel) ?_
          refine gVi (pc := 125) (n2 := 0) (k2 := 0) X cs_X9_isOrder_218 (c_X9_isSign (zl K) D base y kp pd (numE pd P (at' + 1)) od fi la pc f P 61 hq (by omega) hPr (by omega)) rfl hO (by omega) ⟨hO, hNw, hPd⟩ rfl ⟨Nat.le_of_ble_eq_true rfl, Nat.le_of_ble_eq_true rfl⟩ dX9_isOrder_125 (Nat.le_of_ble_eq_true rfl) rfl rfl (fun v125 H4 hp125 hs125 => ?_)
          rcases hp125 with ⟨ha125, rfl, hO, hNw, hPd, hf125⟩ | ⟨ha125, rfl, hO, hNw, hPd, hf125⟩
          · skip
            have hb125 := itm_in (n := pd) (f := P) (p := numE pd P (at' + 1)) (by omega)
            replace hOr := hOr.fr hf125 (by omega)
            refine g_if_eq (pc := 128) X 142 dX9_isOrder_128 (by decide) (by omega) (fun c128 => ?_) (fun c128 => ?_)
            · skip
              exact absurd c128 (by decide)
            · skip
              refine g_aload_n (pc := 131) (pl := 1) X dX9_isOrder_131 rfl ?_
              refine gVi (pc := 132) (n2 := 0) (k2 := 0) X cs_X9_isOrder_221 (c_X9_isWord (zl K) D base y kp pd (numE pd P (at' + 1) + 1) od fi la pc f P (up (up W (4 * od) sv) (4 * od + 1) (numV pd P (at' + 1))) hq (by omega) hPr (by omega)) rfl hO (by omega) ⟨hO, hNw, hPd, hOr⟩ rfl ⟨Nat.le_of_ble_eq_true rfl, Nat.le_of_ble_eq_true rfl⟩ dX9_isOrder_132 (Nat.le_of_ble_eq_true rfl) rfl rfl (fun v132 H5 hp132 hs132 => ?_)
              rcases hp132 with ⟨⟨ha132, rfl⟩ | ⟨ha132, rfl⟩, hO, hNw, hPd, hOr, hu132⟩
              · skip
                refine g_if_eq (pc := 135) X 142 dX9_isOrder_135 (by decide) (by omega) (fun c135 => ?_) (fun c135 => ?_)
                · skip
                  exact absurd c135 (by decide)
                · skip
                  refine g_iconst (pc := 138) X dX9_isOrder_138 ?_
                  refine g_goto (pc := 139) X 143 dX9_isOrder_139 (by decide) ?_
                  refine g_zret (pc := 143) X R hH (by first | exact Or.inl rfl | exact Or.inr rfl | omega) dX9_isOrder_143 ?_
                  obtain ⟨eE, eKi⟩ := o_plus3 (n := pd) (f := P) (p := at') (by omega) ha116 ha125
                  have eK := eKi.mpr ha132
                  have hF1 : ∀ i : Int, 0 ≤ i → i < 4 * od → (up (up (up (up W (4 * od) sv) (4 * od + 1) (numV pd P (at' + 1))) (4 * od + 2) (numE pd P (at' + 1) + 1)) (4 * od + 3) (ltE pd P (numE pd P (at' + 1) + 1) - (numE pd P (at' + 1) + 1))) i = W i := fun i i0 i1 => (if_neg (by omega)).trans ((if_neg (by omega)).trans ((if_neg (by omega)).trans ((if_neg (by omega)).trans (rfl))))
                  have hF2 : OrdA pd P at' od (up (up (up (up W (4 * od) sv) (4 * od + 1) (numV pd P (at' + 1))) (4 * od + 2) (numE pd P (at' + 1) + 1)) (4 * od + 3) (ltE pd P (numE pd P (at' + 1) + 1) - (numE pd P (at' + 1) + 1))) := ⟨(if_neg (by omega)).trans ((if_neg (by omega)).trans ((if_neg (by omega)).trans ((if_pos rfl).trans (by omega)))), (if_neg (by omega)).trans ((if_neg (by omega)).trans (if_pos rfl)), fun z => by omega, fun z => by omega, fun z => ⟨(if_neg (by omega)).trans (if_pos rfl), (if_pos rfl).trans (by rw [eE]; rfl)⟩⟩
                  have hO2 : MoO D y kp pd (ordE pd P at') od fi la pc H5 := by rw [eE]; exact hO
                  exact ⟨_, Or.inl ⟨eK, rfl, hF1, hF2⟩, hO2, hNw, hPd, hOr, (Fr.trans (hf1.un (by omega)) (Fr.trans (hf2.un (by omega)) (Fr.trans hu116 (Fr.trans (hf125.un (by omega)) hu132))))⟩
              · skip
                refine g_if_eq (pc := 135) X 142 dX9_isOrder_135 (by decide) (by omega) (fun c135 => ?_) (fun c135 => ?_)
                · skip
                  refine g_iconst (pc := 142) X dX9_isOrder_142 ?_
                  refine g_zret (pc := 143) X R hH (by first | exact Or.inl rfl | exact Or.inr rfl | omega) dX9_isOrder_143 ?_
                  obtain ⟨eE, eKi⟩ := o_plus3 (n := pd) (f := P) (p := at') (by omega) ha116 ha125
                  have eK := fun z => ha132 (eKi.mp z)
                  exact ⟨_, Or.inr ⟨eK, rfl⟩, by rw [eE]; exact hO, hNw, hPd, hOr, (Fr.trans (hf1.un (by omega)) (Fr.trans (hf2.un (by omega)) (Fr.trans hu116 (Fr.trans (hf125.un (by omega)) hu132))))⟩
                · skip
                  exact absurd (by decide) c135
          · skip
            replace hOr := hOr.fr hf125 (by omega)
            refine g_if_eq (pc := 128) X 142 dX9_isOrder_128 (by decide) (by omega) (fun c128 => ?_) (fun c128 => ?_)
            · skip
              refine g_iconst (pc := 142) X dX9_isOrder_142 ?_
              refine g_zret (pc := 143) X R hH (by first | exact Or.inl rfl | exact Or.inr rfl | omega) dX9_isOrder_143 ?_
              obtain ⟨eE, eK⟩ := o_plus2 (n := pd) (f := P) (p := at') (by omega) ha116 ha125
              exact ⟨_, Or.inr ⟨eK, rfl⟩, by rw [eE]; exact hO, hNw, hPd, hOr, (Fr.trans (hf1.un (by omega)) (Fr.trans (hf2.un (by omega)) (Fr.trans hu116 (hf125.un (by omega)))))⟩
            · skip
              exact absurd (by decide) c128
      · skip
        refine g_if_eq (pc := 119) X 142 dX9_isOrder_119 (by decide) (by omega) (fun c119 => ?_) (fun c119 => ?_)
        · skip
          refine g_iconst (pc := 142) X dX9_isOrder_142 ?_
          refine g_zret (pc := 143) X R hH (by first | exact Or.inl rfl | exact Or.inr rfl | omega) dX9_isOrder_143 ?_
          obtain ⟨eE, eK⟩ := o_plus1 (n := pd) (f := P) (p := at') (by omega) ha116
          exact ⟨_, Or.inr ⟨eK, rfl⟩, by rw [eE]; exact hO, hNw, hPd, hOr, (Fr.trans (hf1.un (by omega)) (hf2.un (by omega)))⟩
        · skip
          exact absurd (by decide) c119
    · skip
      by_cases cs38_1 : sv = 45
      · skip
        refine g_lookup (pc := 38) (a := sv) (off := 106) X 144 dX9_isOrder_38 (by omega) (by decide) (by rw [cs38_1]; decide) (by decide) ?_
        have hin2 := itm_in (n := pd) (f := P) (p := at') (by omega)
        refine g_aload_n (pc := 144) (pl := 1) X dX9_isOrder_144 rfl ?_
        refine g_dup (pc := 145) X dX9_isOrder_145 rfl ?_
        refine g_getf (pc := 146) X zF_X9_isOrder_206 hO rfl dX9_isOrder_146 ?_
        refine g_iconst (pc := 149) X dX9_isOrder_149 ?_
        refine g_iadd (pc := 150) X dX9_isOrder_150 ?_
        refine g_putf (pc := 151) X zW_X9_isOrder_206 hO (by omega) rfl rfl rfl dX9_isOrder_151 (fun H2 hOn hf2 => ?_)
        replace hNw := hNw.fr hf2 (by omega)
        replace hPd := hPd.fr hf2 (by omega)
        replace hOr := hOr.fr hf2 (by omega)
        replace hO : Ob D y 9 [.ref (y + 1), .ref (y + 2), .int (J kp), .ref (y + 3), .ref (y + 4), .ref (y + 5), .int (J pd), .int (J (at' + 1)), .ref (y + 6), .int (J od), .int (J fi), .int (J la), .int (J pc), .ref (y + 7), .ref (y + 8), .ref (y + 9), .ref (y + 10)] H2 := hOn
        clear hOn
        refine g_aload_n (pc := 154) (pl := 1) X dX9_isOrder_154 rfl ?_
        refine gVi (pc := 155) (n2 := 0) (k2 := 0) X cs_X9_isOrder_225 (c_X9_isSpan (zl K) D base y kp pd (at' + 1) od fi la pc f P (up W (4 * od) sv) at' hq (by omega) hPr (by omega) rfl (by omega)) rfl hO (by omega) ⟨hO, hNw, hPd, hOr⟩ rfl ⟨Nat.le_of_ble_eq_true rfl, Nat.le_of_ble_eq_true rfl⟩ dX9_isOrder_155 (Nat.le_of_ble_eq_true rfl) rfl rfl (fun v155 H3 hp155 hs155 => ?_)
        rcases hp155 with ⟨⟨ha155, rfl, hOr⟩ | ⟨ha155, rfl, ⟨R2, hOr⟩⟩, hO, hNw, hPd, hu155⟩
        · skip
          refine g_zret (pc := 158) X R hH (by first | exact Or.inl rfl | exact Or.inr rfl | omega) dX9_isOrder_158 ?_
          obtain ⟨eE, eKi⟩ := o_span (n := pd) (f := P) (p := at') (by omega)
          have eK := eKi.mpr ha155
          have hF1 : ∀ i : Int, 0 ≤ i → i < 4 * od → (up (up (up W (4 * od) sv) (4 * od + 1) (oA pd P at')) (4 * od + 2) (oB pd P at')) i = W i := fun i i0 i1 => (if_neg (by omega)).trans ((if_neg (by omega)).trans ((if_neg (by omega)).trans (rfl)))
          have hF2 : OrdA pd P at' od (up (up (up W (4 * od) sv) (4 * od + 1) (oA pd P at')) (4 * od + 2) (oB pd P at')) := ⟨(if_neg (by omega)).trans ((if_neg (by omega)).trans ((if_pos rfl).trans (by omega))), (if_neg (by omega)).trans (if_pos rfl), fun z => if_pos rfl, fun z => by omega, fun z => by omega⟩
          have hO2 : MoO D y kp pd (ordE pd P at') od fi la pc H3 := by rw [eE]; exact hO
          exact ⟨_, Or.inl ⟨eK, rfl, hF1, hF2⟩, hO2, hNw, hPd, hOr, (Fr.trans (hf1.un (by omega)) (Fr.trans (hf2.un (by omega)) hu155))⟩
        · skip
          refine g_zret (pc := 158) X R hH (by first | exact Or.inl rfl | exact Or.inr rfl | omega) dX9_isOrder_158 ?_
          obtain ⟨eE, eKi⟩ := o_span (n := pd) (f := P) (p := at') (by omega)
          have eK := fun z => ha155 (eKi.mp z)
          exact ⟨_, Or.inr ⟨eK, rfl⟩, by rw [eE]; exact hO, hNw, hPd, hOr, (Fr.trans (hf1.un (by omega)) (Fr.trans (hf2.un (by omega)) hu155))⟩
      · skip
        by_cases cs38_2 : sv = 99
        · skip
          refine g_lookup (pc := 38) (a := sv) (off := 161) X 199 dX9_isOrder_38 (by omega) (by decide) (by rw [cs38_2]; decide) (by decide) ?_
          have hin2 := itm_in (n := pd) (f := P) (p := at') (by omega)
          refine g_aload_n (pc := 199) (pl := 1) X dX9_isOrder_199 rfl ?_
          refine g_dup (pc := 200) X dX9_isOrder_200 rfl ?_
          refine g_getf (pc := 201) X zF_X9_isOrder_206 hO rfl dX9_isOrder_201 ?_
          refine g_iconst (pc := 204) X dX9_isOrder_204 ?_
          refine g_iadd (pc := 205) X dX9_isOrder_205 ?_
          refine g_putf (pc := 206) X zW_X9_isOrder_206 hO (by omega) rfl rfl rfl dX9_isOrder_206 (fun H2 hOn hf2 => ?_)
          replace hNw := hNw.fr hf2 (by omega)
          replace hPd := hPd.fr hf2 (by omega)
          replace hOr := hOr.fr hf2 (by omega)
          replace hO : Ob D y 9 [.ref (y + 1), .ref (y + 2), .int (J kp), .ref (y + 3), .ref (y + 4), .ref (y + 5), .int (J pd), .int (J (at' + 1)), .ref (y + 6), .int (J od), .int (J fi), .int (J la), .int (J pc), .ref (y + 7), .ref (y + 8), .ref (y + 9), .ref (y + 10)] H2 := hOn
          clear hOn
          refine g_aload_n (pc := 209) (pl := 1) X dX9_isOrder_209 rfl ?_
          refine g_iconst (pc := 210) X dX9_isOrder_210 ?_
          refine gVi (pc := 211) (n2 := 0) (k2 := 0) X cs_X9_isOrder_215 (c_X9_isNumber (zl K) D base y kp pd (at' + 1) od fi la pc f P (up W (4 * od) sv) 1 hq (by omega) hPr (by omega) (by omega)) rfl hO (by omega) ⟨hO, hNw, hPd, hOr⟩ rfl ⟨Nat.le_of_ble_eq_true rfl, Nat.le_of_ble_eq_true rfl⟩ dX9_isOrder_211 (Nat.le_of_ble_eq_true rfl) rfl rfl (fun v211 H3 hp211 hs211 => ?_)
          rcases hp211 with ⟨ha211, rfl, hO, hNw, hPd, hOr, hu211⟩ | ⟨ha211, rfl, rfl⟩
          · skip
            have hb211 := num_bd ha211
            refine g_zret (pc := 214) X R hH (by first | exact Or.inl rfl | exact Or.inr rfl | omega) dX9_isOrder_214 ?_
            obtain ⟨eE, eK⟩ := o_one2 (n := pd) (f := P) (p := at') (by omega) ha211
            have hF1 : ∀ i : Int, 0 ≤ i → i < 4 * od → (up (up W (4 * od) sv) (4 * od + 1) (numV pd P (at' + 1))) i = W i := fun i i0 i1 => (if_neg (by omega)).trans ((if_neg (by omega)).trans (rfl))
            have hF2 : OrdA pd P at' od (up (up W (4 * od) sv) (4 * od + 1) (numV pd P (at' + 1))) := ⟨(if_neg (by omega)).trans ((if_pos rfl).trans (by omega)), if_pos rfl, fun z => by omega, fun z => by omega, fun z => by omega⟩
            have hO2 : MoO D y kp pd (ordE pd P at') od fi la pc H3 := by rw [eE]; exact hO
            exact ⟨_, Or.inl ⟨eK, rfl, hF1, hF2⟩, hO2, hNw, hPd, hOr, (Fr.trans (hf1.un (by omega)) (Fr.trans (hf2.un (by omega)) hu211))⟩
          · skip
            refine g_zret (pc := 214) X R hH (by first | exact Or.inl rfl | exact Or.inr rfl | omega) dX9_isOrder_214 ?_
            obtain ⟨eE, eK⟩ := o_one1 (n := pd) (f := P) (p := at') (by omega) ha211
            exact ⟨_, Or.inr ⟨eK, rfl⟩, by rw [eE]; exact hO, hNw, hPd, hOr, (Fr.trans (hf1.un (by omega)) (hf2.un (by omega)))⟩
        · skip
          by_cases cs38_3 : sv = 109
          · skip
            refine g_lookup (pc := 38) (a := sv) (off := 121) X 159 dX9_isOrder_38 (by omega) (by decide) (by rw [cs38_3]; decide) (by decide) ?_
            have hin2 := itm_in (n := pd) (f := P) (p := at') (by omega)
            refine g_aload_n (pc := 159) (pl := 1) X dX9_isOrder_159 rfl ?_
            refine g_dup (pc := 160) X dX9_isOrder_160 rfl ?_
            refine g_getf (pc := 161) X zF_X9_isOrder_206 hO rfl dX9_isOrder_161 ?_
            refine g_iconst (pc := 164) X dX9_isOrder_164 ?_
            refine g_iadd (pc := 165) X dX9_isOrder_165 ?_
            refine g_putf (pc := 166) X zW_X9_isOrder_206 hO (by omega) rfl rfl rfl dX9_isOrder_166 (fun H2 hOn hf2 => ?_)
            replace hNw := hNw.fr hf2 (by omega)
            replace hPd := hPd.fr hf2 (by omega)
            replace hOr := hOr.fr hf2 (by omega)
            replace hO : Ob D y 9 [.ref (y + 1), .ref (y + 2), .int (J kp), .ref (y + 3), .ref (y + 4), .ref (y + 5), .int (J pd), .int (J (at' + 1)), .ref (y + 6), .int (J od), .int (J fi), .int (J la), .int (J pc), .ref (y + 7), .ref (y + 8), .ref (y + 9), .ref (y + 10)] H2 := hOn
            clear hOn
            refine g_aload_n (pc := 169) (pl := 1) X dX9_isOrder_169 rfl ?_
            refine gVi (pc := 170) (n2 := 0) (k2 := 0) X cs_X9_isOrder_225 (c_X9_isSpan (zl K) D base y kp pd (at' + 1) od fi la pc f P (up W (4 * od) sv) at' hq (by omega) hPr (by omega) rfl (by omega)) rfl hO (by omega) ⟨hO, hNw, hPd, hOr⟩ rfl ⟨Nat.le_of_ble_eq_true rfl, Nat.le_of_ble_eq_true rfl⟩ dX9_isOrder_170 (Nat.le_of_ble_eq_true rfl) rfl rfl (fun v170 H3 hp170 hs170 => ?_)
            rcases hp170 with ⟨⟨ha170, rfl, hOr⟩ | ⟨ha170, rfl, ⟨R2, hOr⟩⟩, hO, hNw, hPd, hu170⟩
            · skip
              have eS2 : spanE pd P at' = oe2 pd P at' := (s_4 ha170.1 ha170.2.1 ha170.2.2).1
              rw [eS2] at hO
              have hbs := num_bd ha170.2.2
              have hbt := itm_in (n := pd) (f := P) (p := oe1 pd P at') (by have := ha170.2.1; omega)
              have hbo : oe2 pd P at' = numE pd P (oe1 pd P at' + 1) := rfl
              refine g_if_eq (pc := 173) X 197 dX9_isOrder_173 (by decide) (by omega) (fun c173 => ?_) (fun c173 => ?_)
              · skip
                exact absurd c173 (by decide)
              · skip
                refine g_aload_n (pc := 176) (pl := 1) X dX9_isOrder_176 rfl ?_
                refine g_bipush (pc := 177) X dX9_isOrder_177 (by decide +kernel) ?_
                refine gVi (pc := 179) (n2 := 0) (k2 := 0) X cs_X9_isOrder_218 (c_X9_isSign (zl K) D base y kp pd (oe2 pd P at') od fi la pc f P 62 hq (by omega) hPr (by omega)) rfl hO (by omega) ⟨hO, hNw, hPd⟩ rfl ⟨Nat.le_of_ble_eq_true rfl, Nat.le_of_ble_eq_true rfl⟩ dX9_isOrder_179 (Nat.le_of_ble_eq_true rfl) rfl rfl (fun v179 H4 hp179 hs179 => ?_)
                rcases hp179 with ⟨ha179, rfl, hO, hNw, hPd, hf179⟩ | ⟨ha179, rfl, hO, hNw, hPd, hf179⟩
                · skip
                  have hb179 := itm_in (n := pd) (f := P) (p := oe2 pd P at') (by omega)
                  replace hOr := hOr.fr hf179 (by omega)
                  refine g_if_eq (pc := 182) X 197 dX9_isOrder_182 (by decide) (by omega) (fun c182 => ?_) (fun c182 => ?_)
                  · skip
                    exact absurd c182 (by decide)
                  · skip
                    refine g_aload_n (pc := 185) (pl := 1) X dX9_isOrder_185 rfl ?_
                    refine g_iconst (pc := 186) X dX9_isOrder_186 ?_
                    refine gVi (pc := 187) (n2 := 0) (k2 := 0) X cs_X9_isOrder_215 (c_X9_isNumber (zl K) D base y kp pd (oe2 pd P at' + 1) od fi la pc f P (up (up (up W (4 * od) sv) (4 * od + 1) (oA pd P at')) (4 * od + 2) (oB pd P at')) 3 hq (by omega) hPr (by omega) (by omega)) rfl hO (by omega) ⟨hO, hNw, hPd, hOr⟩ rfl ⟨Nat.le_of_ble_eq_true rfl, Nat.le_of_ble_eq_true rfl⟩ dX9_isOrder_187 (Nat.le_of_ble_eq_true rfl) rfl rfl (fun v187 H5 hp187 hs187 => ?_)
                    rcases hp187 with ⟨ha187, rfl, hO, hNw, hPd, hOr, hu187⟩ | ⟨ha187, rfl, rfl⟩
                    · skip
                      have hb187 := num_bd ha187
                      refine g_if_eq (pc := 190) X 197 dX9_isOrder_190 (by decide) (by omega) (fun c190 => ?_) (fun c190 => ?_)
                      · skip
                        exact absurd c190 (by decide)
                      · skip
                        refine g_iconst (pc := 193) X dX9_isOrder_193 ?_
                        refine g_goto (pc := 194) X 198 dX9_isOrder_194 (by decide) ?_
                        refine g_zret (pc := 198) X R hH (by first | exact Or.inl rfl | exact Or.inr rfl | omega) dX9_isOrder_198 ?_
                        obtain ⟨eE, eK⟩ := o_m4 (n := pd) (f := P) (p := at') (by omega) ha170 ha179 ha187
                        have hF1 : ∀ i : Int, 0 ≤ i → i < 4 * od → (up (up (up (up W (4 * od) sv) (4 * od + 1) (oA pd P at')) (4 * od + 2) (oB pd P at')) (4 * od + 3) (numV pd P (oe2 pd P at' + 1))) i = W i := fun i i0 i1 => (if_neg (by omega)).trans ((if_neg (by omega)).trans ((if_neg (by omega)).trans ((if_neg (by omega)).trans (rfl))))
                        have hF2 : OrdA pd P at' od (up (up (up (up W (4 * od) sv) (4 * od + 1) (oA pd P at')) (4 * od + 2) (oB pd P at')) (4 * od + 3) (numV pd P (oe2 pd P at' + 1))) := ⟨(if_neg (by omega)).trans ((if_neg (by omega)).trans ((if_neg (by omega)).trans ((if_pos rfl).trans (by omega)))), (if_neg (by omega)).trans ((if_neg (by omega)).trans (if_pos rfl)), fun z => (if_neg (by omega)).trans (if_pos rfl), fun z => if_pos rfl, fun z => by omega⟩
                        have hO2 : MoO D y kp pd (ordE pd P at') od fi la pc H5 := by rw [eE]; exact hO
                        exact ⟨_, Or.inl ⟨eK, rfl, hF1, hF2⟩, hO2, hNw, hPd, hOr, (Fr.trans (hf1.un (by omega)) (Fr.trans (hf2.un (by omega)) (Fr.trans hu170 (Fr.trans (hf179.un (by omega)) hu187))))⟩
                    · skip
                      refine g_if_eq (pc := 190) X 197 dX9_isOrder_190 (by decide) (by omega) (fun c190 => ?_) (fun c190 => ?_)
                      · skip
                        refine g_iconst (pc := 197) X dX9_isOrder_197 ?_
                        refine g_zret (pc := 198) X R hH (by first | exact Or.inl rfl | exact Or.inr rfl | omega) dX9_isOrder_198 ?_
                        obtain ⟨eE, eK⟩ := o_m3 (n := pd) (f := P) (p := at') (by omega) ha170 ha179 ha187
                        exact ⟨_, Or.inr ⟨eK, rfl⟩, by rw [eE]; exact hO, hNw, hPd, hOr, (Fr.trans (hf1.un (by omega)) (Fr.trans (hf2.un (by omega)) (Fr.trans hu170 (hf179.un (by omega)))))⟩
                      · skip
                        exact absurd (by decide) c190
                · skip
                  replace hOr := hOr.fr hf179 (by omega)
                  refine g_if_eq (pc := 182) X 197 dX9_isOrder_182 (by decide) (by omega) (fun c182 => ?_) (fun c182 => ?_)
                  · skip
                    refine g_iconst (pc := 197) X dX9_isOrder_197 ?_
                    refine g_zret (pc := 198) X R hH (by first | exact Or.inl rfl | exact Or.inr rfl | omega) dX9_isOrder_198 ?_
                    obtain ⟨eE, eK⟩ := o_m2 (n := pd) (f := P) (p := at') (by omega) ha170 ha179
                    exact ⟨_, Or.inr ⟨eK, rfl⟩, by rw [eE]; exact hO, hNw, hPd, hOr, (Fr.trans (hf1.un (by omega)) (Fr.trans (hf2.un (by omega)) (Fr.trans hu170 (hf179.un (by omega)))))⟩
                  · skip
                    exact absurd (by decide) c182
            · skip
              refine g_if_eq (pc := 173) X 197 dX9_isOrder_173 (by decide) (by omega) (fun c173 => ?_) (fun c173 => ?_)
              · skip
                refine g_iconst (pc := 197) X dX9_isOrder_197 ?_
                refine g_zret (pc := 198) X R hH (by first | exact Or.inl rfl | exact Or.inr rfl | omega) dX9_isOrder_198 ?_
                obtain ⟨eE, eK⟩ := o_m1 (n := pd) (f := P) (p := at') (by omega) ha170
                exact ⟨_, Or.inr ⟨eK, rfl⟩, by rw [eE]; exact hO, hNw, hPd, hOr, (Fr.trans (hf1.un (by omega)) (Fr.trans (hf2.un (by omega)) hu170))⟩
              · skip
                exact absurd (by decide) c173
          · skip
            by_cases cs38_4 : sv = 110
            · skip
              refine g_lookup (pc := 38) (a := sv) (off := 106) X 144 dX9_isOrder_38 (by omega) (by decide) (by rw [cs38_4]; decide) (by decide) ?_
              have hin2 := itm_in (n := pd) (f := P) (p := at') (by omega)
              refine g_aload_n (pc := 144) (pl := 1) X dX9_isOrder_144 rfl ?_
              refine g_dup (pc := 145) X dX9_isOrder_145 rfl ?_
              refine g_getf (pc := 146) X zF_X9_isOrder_206 hO rfl dX9_isOrder_146 ?_
              refine g_iconst (pc := 149) X dX9_isOrder_149 ?_
              refine g_iadd (pc := 150) X dX9_isOrder_150 ?_
              refine g_putf (pc := 151) X zW_X9_isOrder_206 hO (by omega) rfl rfl rfl dX9_isOrder_151 (fun H2 hOn hf2 => ?_)
              replace hNw := hNw.fr hf2 (by omega)
              replace hPd := hPd.fr hf2 (by omega)
              replace hOr := hOr.fr hf2 (by omega)
              replace hO : Ob D y 9 [.ref (y + 1), .ref (y + 2), .int (J kp), .ref (y + 3), .ref (y + 4), .ref (y + 5), .int (J pd), .int (J (at' + 1)), .ref (y + 6), .int (J od), .int (J fi), .int (J la), .int (J pc), .ref (y + 7), .ref (y + 8), .ref (y + 9), .ref (y + 10)] H2 := hOn
              clear hOn
              refine g_aload_n (pc := 154) (pl := 1) X dX9_isOrder_154 rfl ?_
              refine gVi (pc := 155) (n2 := 0) (k2 := 0) X cs_X9_isOrder_225 (c_X9_isSpan (zl K) D base y kp pd (at' + 1) od fi la pc f P (up W (4 * od) sv) at' hq (by omega) hPr (by omega) rfl (by omega)) rfl hO (by omega) ⟨hO, hNw, hPd, hOr⟩ rfl ⟨Nat.le_of_ble_eq_true rfl, Nat.le_of_ble_eq_true rfl⟩ dX9_isOrder_155 (Nat.le_of_ble_eq_true rfl) rfl rfl (fun v155 H3 hp155 hs155 => ?_)
              rcases hp155 with ⟨⟨ha155, rfl, hOr⟩ | ⟨ha155, rfl, ⟨R2, hOr⟩⟩, hO, hNw, hPd, hu155⟩
              · skip
                refine g_zret (pc := 158) X R hH (by first | exact Or.inl rfl | exact Or.inr rfl | omega) dX9_isOrder_158 ?_
                obtain ⟨eE, eKi⟩ := o_span (n := pd) (f := P) (p := at') (by omega)
                have eK := eKi.mpr ha155
                have hF1 : ∀ i : Int, 0 ≤ i → i < 4 * od → (up (up (up W (4 * od) sv) (4 * od + 1) (oA pd P at')) (4 * od + 2) (oB pd P at')) i = W i := fun i i0 i1 => (if_neg (by omega)).trans ((if_neg (by omega)).trans ((if_neg (by omega)).trans (rfl)))
                have hF2 : OrdA pd P at' od (up (up (up W (4 * od) sv) (4 * od + 1) (oA pd P at')) (4 * od + 2) (oB pd P at')) := ⟨(if_neg (by omega)).trans ((if_neg (by omega)).trans ((if_pos rfl).trans (by omega))), (if_neg (by omega)).trans (if_pos rfl), fun z => if_pos rfl, fun z => by omega, fun z => by omega⟩
                have hO2 : MoO D y kp pd (ordE pd P at') od fi la pc H3 := by rw [eE]; exact hO
                exact ⟨_, Or.inl ⟨eK, rfl, hF1, hF2⟩, hO2, hNw, hPd, hOr, (Fr.trans (hf1.un (by omega)) (Fr.trans (hf2.un (by omega)) hu155))⟩
              · skip
                refine g_zret (pc := 158) X R hH (by first | exact Or.inl rfl | exact Or.inr rfl | omega) dX9_isOrder_158 ?_
                obtain ⟨eE, eKi⟩ := o_span (n := pd) (f := P) (p := at') (by omega)
                have eK := fun z => ha155 (eKi.mp z)
                exact ⟨_, Or.inr ⟨eK, rfl⟩, by rw [eE]; exact hO, hNw, hPd, hOr, (Fr.trans (hf1.un (by omega)) (Fr.trans (hf2.un (by omega)) hu155))⟩
            · skip
              by_cases cs38_5 : sv = 114
              · skip
                refine g_lookup (pc := 38) (a := sv) (off := 161) X 199 dX9_isOrder_38 (by omega) (by decide) (by rw [cs38_5]; decide) (by decide) ?_
                have hin2 := itm_in (n := pd) (f := P) (p := at') (by omega)
                refine g_aload_n (pc := 199) (pl := 1) X dX9_isOrder_199 rfl ?_
                refine g_dup (pc := 200) X dX9_isOrder_200 rfl ?_
                refine g_getf (pc := 201) X zF_X9_isOrder_206 hO rfl dX9_isOrder_201 ?_
                refine g_iconst (pc := 204) X dX9_isOrder_204 ?_
                refine g_iadd (pc := 205) X dX9_isOrder_205 ?_
                refine g_putf (pc := 206) X zW_X9_isOrder_206 hO (by omega) rfl rfl rfl dX9_isOrder_206 (fun H2 hOn hf2 => ?_)
                replace hNw := hNw.fr hf2 (by omega)
                replace hPd := hPd.fr hf2 (by omega)
                replace hOr := hOr.fr hf2 (by omega)
                replace hO : Ob D y 9 [.ref (y + 1), .ref (y + 2), .int (J kp), .ref (y + 3), .ref (y + 4), .ref (y + 5), .int (J pd), .int (J (at' + 1)), .ref (y + 6), .int (J od), .int (J fi), .int (J la), .int (J pc), .ref (y + 7), .ref (y + 8), .ref (y + 9), .ref (y + 10)] H2 := hOn
                clear hOn
                refine g_aload_n (pc := 209) (pl := 1) X dX9_isOrder_209 rfl ?_
                refine g_iconst (pc := 210) X dX9_isOrder_210 ?_
                refine gVi (pc := 211) (n2 := 0) (k2 := 0) X cs_X9_isOrder_215 (c_X9_isNumber (zl K) D base y kp pd (at' + 1) od fi la pc f P (up W (4 * od) sv) 1 hq (by omega) hPr (by omega) (by omega)) rfl hO (by omega) ⟨hO, hNw, hPd, hOr⟩ rfl ⟨Nat.le_of_ble_eq_true rfl, Nat.le_of_ble_eq_true rfl⟩ dX9_isOrder_211 (Nat.le_of_ble_eq_true rfl) rfl rfl (fun v211 H3 hp211 hs211 => ?_)
                rcases hp211 with ⟨ha211, rfl, hO, hNw, hPd, hOr, hu211⟩ | ⟨ha211, rfl, rfl⟩
                · skip
                  have hb211 := num_bd ha211
                  refine g_zret (pc := 214) X R hH (by first | exact Or.inl rfl | exact Or.inr rfl | omega) dX9_isOrder_214 ?_
                  obtain ⟨eE, eK⟩ := o_one2 (n := pd) (f := P) (p := at') (by omega) ha211
                  have hF1 : ∀ i : Int, 0 ≤ i → i < 4 * od → (up (up W (4 * od) sv) (4 * od + 1) (numV pd P (at' + 1))) i = W i := fun i i0 i1 => (if_neg (by omega)).trans ((if_neg (by omega)).trans (rfl))
                  have hF2 : OrdA pd P at' od (up (up W (4 * od) sv) (4 * od + 1) (numV pd P (at' + 1))) := ⟨(if_neg (by omega)).trans ((if_pos rfl).trans (by omega)), if_pos rfl, fun z => by omega, fun z => by omega, fun z => by omega⟩
                  have hO2 : MoO D y kp pd (ordE pd P at') od fi la pc H3 := by rw [eE]; exact hO
                  exact ⟨_, Or.inl ⟨eK, rfl, hF1, hF2⟩, hO2, hNw, hPd, hOr, (Fr.trans (hf1.un (by omega)) (Fr.trans (hf2.un (by omega)) hu211))⟩
                · skip
                  refine g_zret (pc := 214) X R hH (by first | exact Or.inl rfl | exact Or.inr rfl | omega) dX9_isOrder_214 ?_
                  obtain ⟨eE, eK⟩ := o_one1 (n := pd) (f := P) (p := at') (by omega) ha211
                  exact ⟨_, Or.inr ⟨eK, rfl⟩, by rw [eE]; exact hO, hNw, hPd, hOr, (Fr.trans (hf1.un (by omega)) (hf2.un (by omega)))⟩
              · skip
                by_cases cs38_6 : sv = 120
                · skip
                  refine g_lookup (pc := 38) (a := sv) (off := 161) X 199 dX9_isOrder_38 (by omega) (by decide) (by rw [cs38_6]; decide) (by decide) ?_
                  have hin2 := itm_in (n := pd) (f := P) (p := at') (by omega)
                  refine g_aload_n (pc := 199) (pl := 1) X dX9_isOrder_199 rfl ?_
                  refine g_dup (pc := 200) X dX9_isOrder_200 rfl ?_
                  refine g_getf (pc := 201) X zF_X9_isOrder_206 hO rfl dX9_isOrder_201 ?_
                  refine g_iconst (pc := 204) X dX9_isOrder_204 ?_
                  refine g_iadd (pc := 205) X dX9_isOrder_205 ?_
                  refine g_putf (pc := 206) X zW_X9_isOrder_206 hO (by omega) rfl rfl rfl dX9_isOrder_206 (fun H2 hOn hf2 => ?_)
                  replace hNw := hNw.fr hf2 (by omega)
                  replace hPd := hPd.fr hf2 (by omega)
                  replace hOr := hOr.fr hf2 (by omega)
                  replace hO : Ob D y 9 [.ref (y + 1), .ref (y + 2), .int (J kp), .ref (y + 3), .ref (y + 4), .ref (y + 5), .int (J pd), .int (J (at' + 1)), .ref (y + 6), .int (J od), .int (J fi), .int (J la), .int (J pc), .ref (y + 7), .ref (y + 8), .ref (y + 9), .ref (y + 10)] H2 := hOn
                  clear hOn
                  refine g_aload_n (pc := 209) (pl := 1) X dX9_isOrder_209 rfl ?_
                  refine g_iconst (pc := 210) X dX9_isOrder_210 ?_
                  refine gVi (pc := 211) (n2 := 0) (k2 := 0) X cs_X9_isOrder_215 (c_X9_isNumber (zl K) D base y kp pd (at' + 1) od fi la pc f P (up W (4 * od) sv) 1 hq (by omega) hPr (by omega) (by omega)) rfl hO (by omega) ⟨hO, hNw, hPd, hOr⟩ rfl ⟨Nat.le_of_ble_eq_true rfl, Nat.le_of_ble_eq_true rfl⟩ dX9_isOrder_211 (Nat.le_of_ble_eq_true rfl) rfl rfl (fun v211 H3 hp211 hs211 => ?_)
                  rcases hp211 with ⟨ha211, rfl, hO, hNw, hPd, hOr, hu211⟩ | ⟨ha211, rfl, rfl⟩
                  · skip
                    have hb211 := num_bd ha211
                    refine g_zret (pc := 214) X R hH (by first | exact Or.inl rfl | exact Or.inr rfl | omega) dX9_isOrder_214 ?_
                    obtain ⟨eE, eK⟩ := o_one2 (n := pd) (f := P) (p := at') (by omega) ha211
                    have hF1 : ∀ i : Int, 0 ≤ i → i < 4 * od → (up (up W (4 * od) sv) (4 * od + 1) (numV pd P (at' + 1))) i = W i := fun i i0 i1 => (if_neg (by omega)).trans ((if_neg (by omega)).trans (rfl))
                    have hF2 : OrdA pd P at' od (up (up W (4 * od) sv) (4 * od + 1) (numV pd P (at' + 1))) := ⟨(if_neg (by omega)).trans ((if_pos rfl).trans (by omega)), if_pos rfl, fun z => by omega, fun z => by omega, fun z => by omega⟩
                    have hO2 : MoO D y kp pd (ordE pd P at') od fi la pc H3 := by rw [eE]; exact hO
                    exact ⟨_, Or.inl ⟨eK, rfl, hF1, hF2⟩, hO2, hNw, hPd, hOr, (Fr.trans (hf1.un (by omega)) (Fr.trans (hf2.un (by omega)) hu211))⟩
                  · skip
                    refine g_zret (pc := 214) X R hH (by first | exact Or.inl rfl | exact Or.inr rfl | omega) dX9_isOrder_214 ?_
                    obtain ⟨eE, eK⟩ := o_one1 (n := pd) (f := P) (p := at') (by omega) ha211
                    exact ⟨_, Or.inr ⟨eK, rfl⟩, by rw [eE]; exact hO, hNw, hPd, hOr, (Fr.trans (hf1.un (by omega)) (hf2.un (by omega)))⟩
                · skip
                  refine g_lookup (pc := 38) (a := sv) (off := 177) X 215 dX9_isOrder_38 (by omega) (by decide) (by simp [Op.lookupswitch.offset, show ¬ ((43 : Int) = sv) from fun e => cs38_0 e.symm, show ¬ ((45 : Int) = sv) from fun e => cs38_1 e.symm, show ¬ ((99 : Int) = sv) from fun e => cs38_2 e.symm, show ¬ ((109 : Int) = sv) from fun e => cs38_3 e.symm, show ¬ ((110 : Int) = sv) from fun e => cs38_4 e.symm, show ¬ ((114 : Int) = sv) from fun e => cs38_5 e.symm, show ¬ ((120 : Int) = sv) from fun e => cs38_6 e.symm, cs38_0, cs38_1, cs38_2, cs38_3, cs38_4, cs38_5, cs38_6]) (by decide) ?_
                  refine g_iconst (pc := 215) X dX9_isOrder_215 ?_
                  refine g_zret (pc := 216) X R hH (by first | exact Or.inl rfl | exact Or.inr rfl | omega) dX9_isOrder_216 ?_
                  obtain ⟨eE, eK⟩ := o_none (n := pd) (f := P) (p := at') (by omega)
                  exact ⟨_, Or.inr ⟨eK, rfl⟩, by rw [eE]; exact hO, hNw, hPd, hOr, (hf1.un (by omega))⟩
  · skip
    refine g_aload_n (pc := 11) (pl := 0) X dX9_isOrder_11 rfl ?_
    refine g_getf (pc := 12) X zF_X9_isOrder_23 hO rfl dX9_isOrder_12 ?_
    refine g_aload_n (pc := 15) (pl := 0) X dX9_isOrder_15 rfl ?_
    refine g_getf (pc := 16) X zF_X9_isOrder_206 hO rfl dX9_isOrder_16 ?_
    obtain ⟨sv, hsv0⟩ : ∃ z : Int, P at' = z := ⟨_, rfl⟩
    have hpr := hPr at' (by omega) (by omega)
    have eI : itm pd P at' = P at' := if_pos (by omega)
    have hsr : (sv = itm pd P at' ∨ (sv = 0 ∧ itm pd P at' = -1)) ∧ 0 ≤ sv ∧ sv ≤ 126 := by omega
    refine g_iaload (pc := 19) X hPd (by omega) (by omega) (by omega) dX9_isOrder_19 ?_
    rw [show P at' = sv from hsv0]
    refine g_goto (pc := 20) X 24 dX9_isOrder_20 (by decide) ?_
    refine g_istore_n (pc := 24) (lv' := [(1, _), (0, _)]) X dX9_isOrder_24 (by decide) rfl ?_
    refine g_aload_n (pc := 25) (pl := 1) X dX9_isOrder_25 rfl ?_
    refine g_getf (pc := 26) X zF_X9_isOrder_26 hO rfl dX9_isOrder_26 ?_
    refine g_iconst (pc := 29) X dX9_isOrder_29 ?_
    refine g_aload_n (pc := 30) (pl := 1) X dX9_isOrder_30 rfl ?_
    refine g_getf (pc := 31) X zF_X9_isOrder_212 hO rfl dX9_isOrder_31 ?_
    refine g_imul (pc := 34) X dX9_isOrder_34 ?_
    refine g_iload_n (pc := 35) (pl := 0) X dX9_isOrder_35 rfl ?_
    refine g_iastore (pc := 36) X hOr (by omega) (by omega) (by omega) (by omega) dX9_isOrder_36 (fun H1 hOrn hf1 => ?_)
    replace hO := hO.fr hf1 (by omega)
    replace hNw := hNw.fr hf1 (by omega)
    replace hPd := hPd.fr hf1 (by omega)
    replace hOr := hOrn
    clear hOrn
    refine g_iload_n (pc := 37) (pl := 0) X dX9_isOrder_37 rfl ?_
    by_cases cs38_0 : sv = 43
    · skip
      refine g_lookup (pc := 38) (a := sv) (off := 66) X 104 dX9_isOrder_38 (by omega) (by decide) (by rw [cs38_0]; decide) (by decide) ?_
      have hin2 := itm_in (n := pd) (f := P) (p := at') (by omega)
      refine g_aload_n (pc := 104) (pl := 1) X dX9_isOrder_104 rfl ?_
      refine g_dup (pc := 105) X dX9_isOrder_105 rfl ?_
      refine g_getf (pc := 106) X zF_X9_isOrder_206 hO rfl dX9_isOrder_106 ?_
      refine g_iconst (pc := 109) X dX9_isOrder_109 ?_
      refine g_iadd (pc := 110) X dX9_isOrder_110 ?_
      refine g_putf (pc := 111) X zW_X9_isOrder_206 hO (by omega) rfl rfl rfl dX9_isOrder_111 (fun H2 hOn hf2 => ?_)
      replace hNw := hNw.fr hf2 (by omega)
      replace hPd := hPd.fr hf2 (by omega)
      replace hOr := hOr.fr hf2 (by omega)
      replace hO : Ob D y 9 [.ref (y + 1), .ref (y + 2), .int (J kp), .ref (y + 3), .ref (y + 4), .ref (y + 5), .int (J pd), .int (J (at' + 1)), .ref (y + 6), .int (J od), .int (J fi), .int (J la), .int (J pc), .ref (y + 7), .ref (y + 8), .ref (y + 9), .ref (y + 10)] H2 := hOn
      clear hOn
      refine g_aload_n (pc := 114) (pl := 1) X dX9_isOrder_114 rfl ?_
      refine g_iconst (pc := 115) X dX9_isOrder_115 ?_
      refine gVi (pc := 116) (n2 := 0) (k2 := 0) X cs_X9_isOrder_215 (c_X9_isNumber (zl K) D base y kp pd (at' + 1) od fi la pc f P (up W (4 * od) sv) 1 hq (by omega) hPr (by omega) (by omega)) rfl hO (by omega) ⟨hO, hNw, hPd, hOr⟩ rfl ⟨Nat.le_of_ble_eq_true rfl, Nat.le_of_ble_eq_true rfl⟩ dX9_isOrder_116 (Nat.le_of_ble_eq_true rfl) rfl rfl (fun v116 H3 hp116 hs116 => ?_)
      rcases hp116 with ⟨ha116, rfl, hO, hNw, hPd, hOr, hu116⟩ | ⟨ha116, rfl, rfl⟩
      · skip
        have hb116 := num_bd ha116
        refine g_if_eq (pc := 119) X 142 dX9_isOrder_119 (by decide) (by omega) (fun c119 => ?_) (fun c119 => ?_)
        · skip
          exact absurd c119 (by decide)
        · skip
          refine g_aload_n (pc := 122) (pl := 1) X dX9_isOrder_122 rfl ?_
          refine g_bipush (pc := 123) X dX9_isOrder_123 (by decide +kernel) ?_
          refine gVi (pc := 125) (n2 := 0) (k2 := 0) X cs_X9_isOrder_218 (c_X9_isSign (zl K) D base y kp pd (numE pd P (at' + 1)) od fi la pc f P 61 hq (by omega) hPr (by omega)) rfl hO (by omega) ⟨hO, hNw, hPd⟩ rfl ⟨Nat.le_of_ble_eq_true rfl, Nat.le_of_ble_eq_true rfl⟩ dX9_isOrder_125 (Nat.le_of_ble_eq_true rfl) rfl rfl (fun v125 H4 hp125 hs125 => ?_)
          rcases hp125 with ⟨ha125, rfl, hO, hNw, hPd, hf125⟩ | ⟨ha125, rfl, hO, hNw, hPd, hf125⟩
          · skip
            have hb125 := itm_in (n := pd) (f := P) (p := numE pd P (at' + 1)) (by omega)
            replace hOr := hOr.fr hf125 (by omega)
            refine g_if_eq (pc := 128) X 142 dX9_isOrder_128 (by decide) (by omega) (fun c128 => ?_) (fun c128 => ?_)
            · skip
              exact absurd c128 (by decide)
            · skip
              refine g_aload_n (pc := 131) (pl := 1) X dX9_isOrder_131 rfl ?_
              refine gVi (pc := 132) (n2 := 0) (k2 := 0) X cs_X9_isOrder_221 (c_X9_isWord (zl K) D base y kp pd (numE pd P (at' + 1) + 1) od fi la pc f P (up (up W (4 * od) sv) (4 * od + 1) (numV pd P (at' + 1))) hq (by omega) hPr (by omega)) rfl hO (by omega) ⟨hO, hNw, hPd, hOr⟩ rfl ⟨Nat.le_of_ble_eq_true rfl, Nat.le_of_ble_eq_true rfl⟩ dX9_isOrder_132 (Nat.le_of_ble_eq_true rfl) rfl rfl (fun v132 H5 hp132 hs132 => ?_)
              rcases hp132 with ⟨⟨ha132, rfl⟩ | ⟨ha132, rfl⟩, hO, hNw, hPd, hOr, hu132⟩
              · skip
                refine g_if_eq (pc := 135) X 142 dX9_isOrder_135 (by decide) (by omega) (fun c135 => ?_) (fun c135 => ?_)
                · skip
                  exact absurd c135 (by decide)
                · skip
                  refine g_iconst (pc := 138) X dX9_isOrder_138 ?_
                  refine g_goto (pc := 139) X 143 dX9_isOrder_139 (by decide) ?_
                  refine g_zret (pc := 143) X R hH (by first | exact Or.inl rfl | exact Or.inr rfl | omega) dX9_isOrder_143 ?_
                  obtain ⟨eE, eKi⟩ := o_plus3 (n := pd) (f := P) (p := at') (by omega) ha116 ha125
                  have eK := eKi.mpr ha132
                  have hF1 : ∀ i : Int, 0 ≤ i → i < 4 * od → (up (up (up (up W (4 * od) sv) (4 * od + 1) (numV pd P (at' + 1))) (4 * od + 2) (numE pd P (at' + 1) + 1)) (4 * od + 3) (ltE pd P (numE pd P (at' + 1) + 1) - (numE pd P (at' + 1) + 1))) i = W i := fun i i0 i1 => (if_neg (by omega)).trans ((if_neg (by omega)).trans ((if_neg (by omega)).trans ((if_neg (by omega)).trans (rfl))))
                  have hF2 : OrdA pd P at' od (up (up (up (up W (4 * od) sv) (4 * od + 1) (numV pd P (at' + 1))) (4 * od + 2) (numE pd P (at' + 1) + 1)) (4 * od + 3) (ltE pd P (numE pd P (at' + 1) + 1) - (numE pd P (at' + 1) + 1))) := ⟨(if_neg (by omega)).trans ((if_neg (by omega)).trans ((if_neg (by omega)).trans ((if_pos rfl).trans (by omega)))), (if_neg (by omega)).trans ((if_neg (by omega)).trans (if_pos rfl)), fun z => by omega, fun z => by omega, fun z => ⟨(if_neg (by omega)).trans (if_pos rfl), (if_pos rfl).trans (by rw [eE]; rfl)⟩⟩
                  have hO2 : MoO D y kp pd (ordE pd P at') od fi la pc H5 := by rw [eE]; exact hO
                  exact ⟨_, Or.inl ⟨eK, rfl, hF1, hF2⟩, hO2, hNw, hPd, hOr, (Fr.trans (hf1.un (by omega)) (Fr.trans (hf2.un (by omega)) (Fr.trans hu116 (Fr.trans (hf125.un (by omega)) hu132))))⟩
              · skip
                refine g_if_eq (pc := 135) X 142 dX9_isOrder_135 (by decide) (by omega) (fun c135 => ?_) (fun c135 => ?_)
                · skip
                  refine g_iconst (pc := 142) X dX9_isOrder_142 ?_
                  refine g_zret (pc := 143) X R hH (by first | exact Or.inl rfl | exact Or.inr rfl | omega) dX9_isOrder_143 ?_
                  obtain ⟨eE, eKi⟩ := o_plus3 (n := pd) (f := P) (p := at') (by omega) ha116 ha125
                  have eK := fun z => ha132 (eKi.mp z)
                  exact ⟨_, Or.inr ⟨eK, rfl⟩, by rw [eE]; exact hO, hNw, hPd, hOr, (Fr.trans (hf1.un (by omega)) (Fr.trans (hf2.un (by omega)) (Fr.trans hu116 (Fr.trans (hf125.un (by omega)) hu132))))⟩
                · skip
                  exact absurd (by decide) c135
          · skip
            replace hOr := hOr.fr hf125 (by omega)
            refine g_if_eq (pc := 128) X 142 dX9_isOrder_128 (by decide) (by omega) (fun c128 => ?_) (fun c128 => ?_)
            · skip
              refine g_iconst (pc := 142) X dX9_isOrder_142 ?_
              refine g_zret (pc := 143) X R hH (by first | exact Or.inl rfl | exact Or.inr rfl | omega) dX9_isOrder_143 ?_
              obtain ⟨eE, eK⟩ := o_plus2 (n := pd) (f := P) (p := at') (by omega) ha116 ha125
              exact ⟨_, Or.inr ⟨eK, rfl⟩, by rw [eE]; exact hO, hNw, hPd, hOr, (Fr.trans (hf1.un (by omega)) (Fr.trans (hf2.un (by omega)) (Fr.trans hu116 (hf125.un (by omega)))))⟩
            · skip
              exact absurd (by decide) c128
      · skip
        refine g_if_eq (pc := 119) X 142 dX9_isOrder_119 (by decide) (by omega) (fun c119 => ?_) (fun c119 => ?_)
        · skip
          refine g_iconst (pc := 142) X dX9_isOrder_142 ?_
          refine g_zret (pc := 143) X R hH (by first | exact Or.inl rfl | exact Or.inr rfl | omega) dX9_isOrder_143 ?_
          obtain ⟨eE, eK⟩ := o_plus1 (n := pd) (f := P) (p := at') (by omega) ha116
          exact ⟨_, Or.inr ⟨eK, rfl⟩, by rw [eE]; exact hO, hNw, hPd, hOr, (Fr.trans (hf1.un (by omega)) (hf2.un (by omega)))⟩
        · skip
          exact absurd (by decide) c119
    · skip
      by_cases cs38_1 : sv = 45
      · skip
        refine g_lookup (pc := 38) (a := sv) (off := 106) X 144 dX9_isOrder_38 (by omega) (by decide) (by rw [cs38_1]; decide) (by decide) ?_
        have hin2 := itm_in (n := pd) (f := P) (p := at') (by omega)
        refine g_aload_n (pc := 144) (pl := 1) X dX9_isOrder_144 rfl ?_
        refine g_dup (pc := 145) X dX9_isOrder_145 rfl ?_
        refine g_getf (pc := 146) X zF_X9_isOrder_206 hO rfl dX9_isOrder_146 ?_
        refine g_iconst (pc := 149) X dX9_isOrder_149 ?_
        refine g_iadd (pc := 150) X dX9_isOrder_150 ?_
        refine g_putf (pc := 151) X zW_X9_isOrder_206 hO (by omega) rfl rfl rfl dX9_isOrder_151 (fun H2 hOn hf2 => ?_)
        replace hNw := hNw.fr hf2 (by omega)
        replace hPd := hPd.fr hf2 (by omega)
        replace hOr := hOr.fr hf2 (by omega)
        replace hO : Ob D y 9 [.ref (y + 1), .ref (y + 2), .int (J kp), .ref (y + 3), .ref (y + 4), .ref (y + 5), .int (J pd), .int (J (at' + 1)), .ref (y + 6), .int (J od), .int (J fi), .int (J la), .int (J pc), .ref (y + 7), .ref (y + 8), .ref (y + 9), .ref (y + 10)] H2 := hOn
        clear hOn
        refine g_aload_n (pc := 154) (pl := 1) X dX9_isOrder_154 rfl ?_
        refine gVi (pc := 155) (n2 := 0) (k2 := 0) X cs_X9_isOrder_225 (c_X9_isSpan (zl K) D base y kp pd (at' + 1) od fi la pc f P (up W (4 * od) sv) at' hq (by omega) hPr (by omega) rfl (by omega)) rfl hO (by omega) ⟨hO, hNw, hPd, hOr⟩ rfl ⟨Nat.le_of_ble_eq_true rfl, Nat.le_of_ble_eq_true rfl⟩ dX9_isOrder_155 (Nat.le_of_ble_eq_true rfl) rfl rfl (fun v155 H3 hp155 hs155 => ?_)
        rcases hp155 with ⟨⟨ha155, rfl, hOr⟩ | ⟨ha155, rfl, ⟨R2, hOr⟩⟩, hO, hNw, hPd, hu155⟩
        · skip
          refine g_zret (pc := 158) X R hH (by first | exact Or.inl rfl | exact Or.inr rfl | omega) dX9_isOrder_158 ?_
          obtain ⟨eE, eKi⟩ := o_span (n := pd) (f := P) (p := at') (by omega)
          have eK := eKi.mpr ha155
          have hF1 : ∀ i : Int, 0 ≤ i → i < 4 * od → (up (up (up W (4 * od) sv) (4 * od + 1) (oA pd P at')) (4 * od + 2) (oB pd P at')) i = W i := fun i i0 i1 => (if_neg (by omega)).trans ((if_neg (by omega)).trans ((if_neg (by omega)).trans (rfl)))
          have hF2 : OrdA pd P at' od (up (up (up W (4 * od) sv) (4 * od + 1) (oA pd P at')) (4 * od + 2) (oB pd P at')) := ⟨(if_neg (by omega)).trans ((if_neg (by omega)).trans ((if_pos rfl).trans (by omega))), (if_neg (by omega)).trans (if_pos rfl), fun z => if_pos rfl, fun z => by omega, fun z => by omega⟩
          have hO2 : MoO D y kp pd (ordE pd P at') od fi la pc H3 := by rw [eE]; exact hO
          exact ⟨_, Or.inl ⟨eK, rfl, hF1, hF2⟩, hO2, hNw, hPd, hOr, (Fr.trans (hf1.un (by omega)) (Fr.trans (hf2.un (by omega)) hu155))⟩
        · skip
          refine g_zret (pc := 158) X R hH (by first | exact Or.inl rfl | exact Or.inr rfl | omega) dX9_isOrder_158 ?_
          obtain ⟨eE, eKi⟩ := o_span (n := pd) (f := P) (p := at') (by omega)
          have eK := fun z => ha155 (eKi.mp z)
          exact ⟨_, Or.inr ⟨eK, rfl⟩, by rw [eE]; exact hO, hNw, hPd, hOr, (Fr.trans (hf1.un (by omega)) (Fr.trans (hf2.un (by omega)) hu155))⟩
      · skip
        by_cases cs38_2 : sv = 99
        · skip
          refine g_lookup (pc := 38) (a := sv) (off := 161) X 199 dX9_isOrder_38 (by omega) (by decide) (by rw [cs38_2]; decide) (by decide) ?_
          have hin2 := itm_in (n := pd) (f := P) (p := at') (by omega)
          refine g_aload_n (pc := 199) (pl := 1) X dX9_isOrder_199 rfl ?_
          refine g_dup (pc := 200) X dX9_isOrder_200 rfl ?_
          refine g_getf (pc := 201) X zF_X9_isOrder_206 hO rfl dX9_isOrder_201 ?_
          refine g_iconst (pc := 204) X dX9_isOrder_204 ?_
          refine g_iadd (pc := 205) X dX9_isOrder_205 ?_
          refine g_putf (pc := 206) X zW_X9_isOrder_206 hO (by omega) rfl rfl rfl dX9_isOrder_206 (fun H2 hOn hf2 => ?_)
          replace hNw := hNw.fr hf2 (by omega)
          replace hPd := hPd.fr hf2 (by omega)
          replace hOr := hOr.fr hf2 (by omega)
          replace hO : Ob D y 9 [.ref (y + 1), .ref (y + 2), .int (J kp), .ref (y + 3), .ref (y + 4), .ref (y + 5), .int (J pd), .int (J (at' + 1)), .ref (y + 6), .int (J od), .int (J fi), .int (J la), .int (J pc), .ref (y + 7), .ref (y + 8), .ref (y + 9), .ref (y + 10)] H2 := hOn
          clear hOn
          refine g_aload_n (pc := 209) (pl := 1) X dX9_isOrder_209 rfl ?_
          refine g_iconst (pc := 210) X dX9_isOrder_210 ?_
          refine gVi (pc := 211) (n2 := 0) (k2 := 0) X cs_X9_isOrder_215 (c_X9_isNumber (zl K) D base y kp pd (at' + 1) od fi la pc f P (up W (4 * od) sv) 1 hq (by omega) hPr (by omega) (by omega)) rfl hO (by omega) ⟨hO, hNw, hPd, hOr⟩ rfl ⟨Nat.le_of_ble_eq_true rfl, Nat.le_of_ble_eq_true rfl⟩ dX9_isOrder_211 (Nat.le_of_ble_eq_true rfl) rfl rfl (fun v211 H3 hp211 hs211 => ?_)
          rcases hp211 with ⟨ha211, rfl, hO, hNw, hPd, hOr, hu211⟩ | ⟨ha211, rfl, rfl⟩
          · skip
            have hb211 := num_bd ha211
            refine g_zret (pc := 214) X R hH (by first | exact Or.inl rfl | exact Or.inr rfl | omega) dX9_isOrder_214 ?_
            obtain ⟨eE, eK⟩ := o_one2 (n := pd) (f := P) (p := at') (by omega) ha211
            have hF1 : ∀ i : Int, 0 ≤ i → i < 4 * od → (up (up W (4 * od) sv) (4 * od + 1) (numV pd P (at' + 1))) i = W i := fun i i0 i1 => (if_neg (by omega)).trans ((if_neg (by omega)).trans (rfl))
            have hF2 : OrdA pd P at' od (up (up W (4 * od) sv) (4 * od + 1) (numV pd P (at' + 1))) := ⟨(if_neg (by omega)).trans ((if_pos rfl).trans (by omega)), if_pos rfl, fun z => by omega, fun z => by omega, fun z => by omega⟩
            have hO2 : MoO D y kp pd (ordE pd P at') od fi la pc H3 := by rw [eE]; exact hO
            exact ⟨_, Or.inl ⟨eK, rfl, hF1, hF2⟩, hO2, hNw, hPd, hOr, (Fr.trans (hf1.un (by omega)) (Fr.trans (hf2.un (by omega)) hu211))⟩
          · skip
            refine g_zret (pc := 214) X R hH (by first | exact Or.inl rfl | exact Or.inr rfl | omega) dX9_isOrder_214 ?_
            obtain ⟨eE, eK⟩ := o_one1 (n := pd) (f := P) (p := at') (by omega) ha211
            exact ⟨_, Or.inr ⟨eK, rfl⟩, by rw [eE]; exact hO, hNw, hPd, hOr, (Fr.trans (hf1.un (by omega)) (hf2.un (by omega)))⟩
        · skip
          by_cases cs38_3 : sv = 109
          · skip
            refine g_lookup (pc := 38) (a := sv) (off := 121) X 159 dX9_isOrder_38 (by omega) (by decide) (by rw [cs38_3]; decide) (by decide) ?_
            have hin2 := itm_in (n := pd) (f := P) (p := at') (by omega)
            refine g_aload_n (pc := 159) (pl := 1) X dX9_isOrder_159 rfl ?_
            refine g_dup (pc := 160) X dX9_isOrder_160 rfl ?_
            refine g_getf (pc := 161) X zF_X9_isOrder_206 hO rfl dX9_isOrder_161 ?_
            refine g_iconst (pc := 164) X dX9_isOrder_164 ?_
            refine g_iadd (pc := 165) X dX9_isOrder_165 ?_
            refine g_putf (pc := 166) X zW_X9_isOrder_206 hO (by omega) rfl rfl rfl dX9_isOrder_166 (fun H2 hOn hf2 => ?_)
            replace hNw := hNw.fr hf2 (by omega)
            replace hPd := hPd.fr hf2 (by omega)
            replace hOr := hOr.fr hf2 (by omega)
            replace hO : Ob D y 9 [.ref (y + 1), .ref (y + 2), .int (J kp), .ref (y + 3), .ref (y + 4), .ref (y + 5), .int (J pd), .int (J (at' + 1)), .ref (y + 6), .int (J od), .int (J fi), .int (J la), .int (J pc), .ref (y + 7), .ref (y + 8), .ref (y + 9), .ref (y + 10)] H2 := hOn
            clear hOn
            refine g_aload_n (pc := 169) (pl := 1) X dX9_isOrder_169 rfl ?_
            refine gVi (pc := 170) (n2 := 0) (k2 := 0) X cs_X9_isOrder_225 (c_X9_isSpan (zl K) D base y kp pd (at' + 1) od fi la pc f P (up W (4 * od) sv) at' hq (by omega) hPr (by omega) rfl (by omega)) rfl hO (by omega) ⟨hO, hNw, hPd, hOr⟩ rfl ⟨Nat.le_of_ble_eq_true rfl, Nat.le_of_ble_eq_true rfl⟩ dX9_isOrder_170 (Nat.le_of_ble_eq_true rfl) rfl rfl (fun v170 H3 hp170 hs170 => ?_)
            rcases hp170 with ⟨⟨ha170, rfl, hOr⟩ | ⟨ha170, rfl, ⟨R2, hOr⟩⟩, hO, hNw, hPd, hu170⟩
            · skip
              have eS2 : spanE pd P at' = oe2 pd P at' := (s_4 ha170.1 ha170.2.1 ha170.2.2).1
              rw [eS2] at hO
              have hbs := num_bd ha170.2.2
              have hbt := itm_in (n := pd) (f := P) (p := oe1 pd P at') (by have := ha170.2.1; omega)
              have hbo : oe2 pd P at' = numE pd P (oe1 pd P at' + 1) := rfl
              refine g_if_eq (pc := 173) X 197 dX9_isOrder_173 (by decide) (by omega) (fun c173 => ?_) (fun c173 => ?_)
              · skip
                exact absurd c173 (by decide)
              · skip
                refine g_aload_n (pc := 176) (pl := 1) X dX9_isOrder_176 rfl ?_
                refine g_bipush (pc := 177) X dX9_isOrder_177 (by decide +kernel) ?_
                refine gVi (pc := 179) (n2 := 0) (k2 := 0) X cs_X9_isOrder_218 (c_X9_isSign (zl K) D base y kp pd (oe2 pd P at') od fi la pc f P 62 hq (by omega) hPr (by omega)) rfl hO (by omega) ⟨hO, hNw, hPd⟩ rfl ⟨Nat.le_of_ble_eq_true rfl, Nat.le_of_ble_eq_true rfl⟩ dX9_isOrder_179 (Nat.le_of_ble_eq_true rfl) rfl rfl (fun v179 H4 hp179 hs179 => ?_)
                rcases hp179 with ⟨ha179, rfl, hO, hNw, hPd, hf179⟩ | ⟨ha179, rfl, hO, hNw, hPd, hf179⟩
                · skip
                  have hb179 := itm_in (n := pd) (f := P) (p := oe2 pd P at') (by omega)
                  replace hOr := hOr.fr hf179 (by omega)
                  refine g_if_eq (pc := 182) X 197 dX9_isOrder_182 (by decide) (by omega) (fun c182 => ?_) (fun c182 => ?_)
                  · skip
                    exact absurd c182 (by decide)
                  · skip
                    refine g_aload_n (pc := 185) (pl := 1) X dX9_isOrder_185 rfl ?_
                    refine g_iconst (pc := 186) X dX9_isOrder_186 ?_
                    refine gVi (pc := 187) (n2 := 0) (k2 := 0) X cs_X9_isOrder_215 (c_X9_isNumber (zl K) D base y kp pd (oe2 pd P at' + 1) od fi la pc f P (up (up (up W (4 * od) sv) (4 * od + 1) (oA pd P at')) (4 * od + 2) (oB pd P at')) 3 hq (by omega) hPr (by omega) (by omega)) rfl hO (by omega) ⟨hO, hNw, hPd, hOr⟩ rfl ⟨Nat.le_of_ble_eq_true rfl, Nat.le_of_ble_eq_true rfl⟩ dX9_isOrder_187 (Nat.le_of_ble_eq_true rfl) rfl rfl (fun v187 H5 hp187 hs187 => ?_)
                    rcases hp187 with ⟨ha187, rfl, hO, hNw, hPd, hOr, hu187⟩ | ⟨ha187, rfl, rfl⟩
                    · skip
                      have hb187 := num_bd ha187
                      refine g_if_eq (pc := 190) X 197 dX9_isOrder_190 (by decide) (by omega) (fun c190 => ?_) (fun c190 => ?_)
                      · skip
                        exact absurd c190 (by decide)
                      · skip
                        refine g_iconst (pc := 193) X dX9_isOrder_193 ?_
                        refine g_goto (pc := 194) X 198 dX9_isOrder_194 (by decide) ?_
                        refine g_zret (pc := 198) X R hH (by first | exact Or.inl rfl | exact Or.inr rfl | omega) dX9_isOrder_198 ?_
                        obtain ⟨eE, eK⟩ := o_m4 (n := pd) (f := P) (p := at') (by omega) ha170 ha179 ha187
                        have hF1 : ∀ i : Int, 0 ≤ i → i < 4 * od → (up (up (up (up W (4 * od) sv) (4 * od + 1) (oA pd P at')) (4 * od + 2) (oB pd P at')) (4 * od + 3) (numV pd P (oe2 pd P at' + 1))) i = W i := fun i i0 i1 => (if_neg (by omega)).trans ((if_neg (by omega)).trans ((if_neg (by omega)).trans ((if_neg (by omega)).trans (rfl))))
                        have hF2 : OrdA pd P at' od (up (up (up (up W (4 * od) sv) (4 * od + 1) (oA pd P at')) (4 * od + 2) (oB pd P at')) (4 * od + 3) (numV pd P (oe2 pd P at' + 1))) := ⟨(if_neg (by omega)).trans ((if_neg (by omega)).trans ((if_neg (by omega)).trans ((if_pos rfl).trans (by omega)))), (if_neg (by omega)).trans ((if_neg (by omega)).trans (if_pos rfl)), fun z => (if_neg (by omega)).trans (if_pos rfl), fun z => if_pos rfl, fun z => by omega⟩
                        have hO2 : MoO D y kp pd (ordE pd P at') od fi la pc H5 := by rw [eE]; exact hO
                        exact ⟨_, Or.inl ⟨eK, rfl, hF1, hF2⟩, hO2, hNw, hPd, hOr, (Fr.trans (hf1.un (by omega)) (Fr.trans (hf2.un (by omega)) (Fr.trans hu170 (Fr.trans (hf179.un (by omega)) hu187))))⟩
                    · skip
                      refine g_if_eq (pc := 190) X 197 dX9_isOrder_190 (by decide) (by omega) (fun c190 => ?_) (fun c190 => ?_)
                      · skip
                        refine g_iconst (pc := 197) X dX9_isOrder_197 ?_
                        refine g_zret (pc := 198) X R hH (by first | exact Or.inl rfl | exact Or.inr rfl | omega) dX9_isOrder_198 ?_
                        obtain ⟨eE, eK⟩ := o_m3 (n := pd) (f := P) (p := at') (by omega) ha170 ha179 ha187
                        exact ⟨_, Or.inr ⟨eK, rfl⟩, by rw [eE]; exact hO, hNw, hPd, hOr, (Fr.trans (hf1.un (by omega)) (Fr.trans (hf2.un (by omega)) (Fr.trans hu170 (hf179.un (by omega)))))⟩
                      · skip
                        exact absurd (by decide) c190
                · skip
                  replace hOr := hOr.fr hf179 (by omega)
                  refine g_if_eq (pc := 182) X 197 dX9_isOrder_182 (by decide) (by omega) (fun c182 => ?_) (fun c182 => ?_)
                  · skip
                    refine g_iconst (pc := 197) X dX9_isOrder_197 ?_
                    refine g_zret (pc := 198) X R hH (by first | exact Or.inl rfl | exact Or.inr rfl | omega) dX9_isOrder_198 ?_
                    obtain ⟨eE, eK⟩ := o_m2 (n := pd) (f := P) (p := at') (by omega) ha170 ha179
                    exact ⟨_, Or.inr ⟨eK, rfl⟩, by rw [eE]; exact hO, hNw, hPd, hOr, (Fr.trans (hf1.un (by omega)) (Fr.trans (hf2.un (by omega)) (Fr.trans hu170 (hf179.un (by omega)))))⟩
                  · skip
                    exact absurd (by decide) c182
            · skip
              refine g_if_eq (pc := 173) X 197 dX9_isOrder_173 (by decide) (by omega) (fun c173 => ?_) (fun c173 => ?_)
              · skip
                refine g_iconst (pc := 197) X dX9_isOrder_197 ?_
                refine g_zret (pc := 198) X R hH (by first | exact Or.inl rfl | exact Or.inr rfl | omega) dX9_isOrder_198 ?_
                obtain ⟨eE, eK⟩ := o_m1 (n := pd) (f := P) (p := at') (by omega) ha170
                exact ⟨_, Or.inr ⟨eK, rfl⟩, by rw [eE]; exact hO, hNw, hPd, hOr, (Fr.trans (hf1.un (by omega)) (Fr.trans (hf2.un (by omega)) hu170))⟩
              · skip
                exact absurd (by decide) c173
          · skip
            by_cases cs38_4 : sv = 110
            · skip
              refine g_lookup (pc := 38) (a := sv) (off := 106) X 144 dX9_isOrder_38 (by omega) (by decide) (by rw [cs38_4]; decide) (by decide) ?_
              have hin2 := itm_in (n := pd) (f := P) (p := at') (by omega)
              refine g_aload_n (pc := 144) (pl := 1) X dX9_isOrder_144 rfl ?_
              refine g_dup (pc := 145) X dX9_isOrder_145 rfl ?_
              refine g_getf (pc := 146) X zF_X9_isOrder_206 hO rfl dX9_isOrder_146 ?_
              refine g_iconst (pc := 149) X dX9_isOrder_149 ?_
              refine g_iadd (pc := 150) X dX9_isOrder_150 ?_
              refine g_putf (pc := 151) X zW_X9_isOrder_206 hO (by omega) rfl rfl rfl dX9_isOrder_151 (fun H2 hOn hf2 => ?_)
              replace hNw := hNw.fr hf2 (by omega)
              replace hPd := hPd.fr hf2 (by omega)
              replace hOr := hOr.fr hf2 (by omega)
              replace hO : Ob D y 9 [.ref (y + 1), .ref (y + 2), .int (J kp), .ref (y + 3), .ref (y + 4), .ref (y + 5), .int (J pd), .int (J (at' + 1)), .ref (y + 6), .int (J od), .int (J fi), .int (J la), .int (J pc), .ref (y + 7), .ref (y + 8), .ref (y + 9), .ref (y + 10)] H2 := hOn
              clear hOn
              refine g_aload_n (pc := 154) (pl := 1) X dX9_isOrder_154 rfl ?_
              refine gVi (pc := 155) (n2 := 0) (k2 := 0) X cs_X9_isOrder_225 (c_X9_isSpan (zl K) D base y kp pd (at' + 1) od fi la pc f P (up W (4 * od) sv) at' hq (by omega) hPr (by omega) rfl (by omega)) rfl hO (by omega) ⟨hO, hNw, hPd, hOr⟩ rfl ⟨Nat.le_of_ble_eq_true rfl, Nat.le_of_ble_eq_true rfl⟩ dX9_isOrder_155 (Nat.le_of_ble_eq_true rfl) rfl rfl (fun v155 H3 hp155 hs155 => ?_)
              rcases hp155 with ⟨⟨ha155, rfl, hOr⟩ | ⟨ha155, rfl, ⟨R2, hOr⟩⟩, hO, hNw, hPd, hu155⟩
              · skip
                refine g_zret (pc := 158) X R hH (by first | exact Or.inl rfl | exact Or.inr rfl | omega) dX9_isOrder_158 ?_
                obtain ⟨eE, eKi⟩ := o_span (n := pd) (f := P) (p := at') (by omega)
                have eK := eKi.mpr ha155
                have hF1 : ∀ i : Int, 0 ≤ i → i < 4 * od → (up (up (up W (4 * od) sv) (4 * od + 1) (oA pd P at')) (4 * od + 2) (oB pd P at')) i = W i := fun i i0 i1 => (if_neg (by omega)).trans ((if_neg (by omega)).trans ((if_neg (by omega)).trans (rfl)))
                have hF2 : OrdA pd P at' od (up (up (up W (4 * od) sv) (4 * od + 1) (oA pd P at')) (4 * od + 2) (oB pd P at')) := ⟨(if_neg (by omega)).trans ((if_neg (by omega)).trans ((if_pos rfl).trans (by omega))), (if_neg (by omega)).trans (if_pos rfl), fun z => if_pos rfl, fun z => by omega, fun z => by omega⟩
                have hO2 : MoO D y kp pd (ordE pd P at') od fi la pc H3 := by rw [eE]; exact hO
                exact ⟨_, Or.inl ⟨eK, rfl, hF1, hF2⟩, hO2, hNw, hPd, hOr, (Fr.trans (hf1.un (by omega)) (Fr.trans (hf2.un (by omega)) hu155))⟩
              · skip
                refine g_zret (pc := 158) X R hH (by first | exact Or.inl rfl | exact Or.inr rfl | omega) dX9_isOrder_158 ?_
                obtain ⟨eE, eKi⟩ := o_span (n := pd) (f := P) (p := at') (by omega)
                have eK := fun z => ha155 (eKi.mp z)
                exact ⟨_, Or.inr ⟨eK, rfl⟩, by rw [eE]; exact hO, hNw, hPd, hOr, (Fr.trans (hf1.un (by omega)) (Fr.trans (hf2.un (by omega)) hu155))⟩
            · skip
              by_cases cs38_5 : sv = 114
              · skip
                refine g_lookup (pc := 38) (a := sv) (off := 161) X 199 dX9_isOrder_38 (by omega) (by decide) (by rw [cs38_5]; decide) (by decide) ?_
                have hin2 := itm_in (n := pd) (f := P) (p := at') (by omega)
                refine g_aload_n (pc := 199) (pl := 1) X dX9_isOrder_199 rfl ?_
                refine g_dup (pc := 200) X dX9_isOrder_200 rfl ?_
                refine g_getf (pc := 201) X zF_X9_isOrder_206 hO rfl dX9_isOrder_201 ?_
                refine g_iconst (pc := 204) X dX9_isOrder_204 ?_
                refine g_iadd (pc := 205) X dX9_isOrder_205 ?_
                refine g_putf (pc := 206) X zW_X9_isOrder_206 hO (by omega) rfl rfl rfl dX9_isOrder_206 (fun H2 hOn hf2 => ?_)
                replace hNw := hNw.fr hf2 (by omega)
                replace hPd := hPd.fr hf2 (by omega)
                replace hOr := hOr.fr hf2 (by omega)
                replace hO : Ob D y 9 [.ref (y + 1), .ref (y + 2), .int (J kp), .ref (y + 3), .ref (y + 4), .ref (y + 5), .int (J pd), .int (J (at' + 1)), .ref (y + 6), .int (J od), .int (J fi), .int (J la), .int (J pc), .ref (y + 7), .ref (y + 8), .ref (y + 9), .ref (y + 10)] H2 := hOn
                clear hOn
                refine g_aload_n (pc := 209) (pl := 1) X dX9_isOrder_209 rfl ?_
                refine g_iconst (pc := 210) X dX9_isOrder_210 ?_
                refine gVi (pc := 211) (n2 := 0) (k2 := 0) X cs_X9_isOrder_215 (c_X9_isNumber (zl K) D base y kp pd (at' + 1) od fi la pc f P (up W (4 * od) sv) 1 hq (by omega) hPr (by omega) (by omega)) rfl hO (by omega) ⟨hO, hNw, hPd, hOr⟩ rfl ⟨Nat.le_of_ble_eq_true rfl, Nat.le_of_ble_eq_true rfl⟩ dX9_isOrder_211 (Nat.le_of_ble_eq_true rfl) rfl rfl (fun v211 H3 hp211 hs211 => ?_)
                rcases hp211 with ⟨ha211, rfl, hO, hNw, hPd, hOr, hu211⟩ | ⟨ha211, rfl, rfl⟩
                · skip
                  have hb211 := num_bd ha211
                  refine g_zret (pc := 214) X R hH (by first | exact Or.inl rfl | exact Or.inr rfl | omega) dX9_isOrder_214 ?_
                  obtain ⟨eE, eK⟩ := o_one2 (n := pd) (f := P) (p := at') (by omega) ha211
                  have hF1 : ∀ i : Int, 0 ≤ i → i < 4 * od → (up (up W (4 * od) sv) (4 * od + 1) (numV pd P (at' + 1))) i = W i := fun i i0 i1 => (if_neg (by omega)).trans ((if_neg (by omega)).trans (rfl))
                  have hF2 : OrdA pd P at' od (up (up W (4 * od) sv) (4 * od + 1) (numV pd P (at' + 1))) := ⟨(if_neg (by omega)).trans ((if_pos rfl).trans (by omega)), if_pos rfl, fun z => by omega, fun z => by omega, fun z => by omega⟩
                  have hO2 : MoO D y kp pd (ordE pd P at') od fi la pc H3 := by rw [eE]; exact hO
                  exact ⟨_, Or.inl ⟨eK, rfl, hF1, hF2⟩, hO2, hNw, hPd, hOr, (Fr.trans (hf1.un (by omega)) (Fr.trans (hf2.un (by omega)) hu211))⟩
                · skip
                  refine g_zret (pc := 214) X R hH (by first | exact Or.inl rfl | exact Or.inr rfl | omega) dX9_isOrder_214 ?_
                  obtain ⟨eE, eK⟩ := o_one1 (n := pd) (f := P) (p := at') (by omega) ha211
                  exact ⟨_, Or.inr ⟨eK, rfl⟩, by rw [eE]; exact hO, hNw, hPd, hOr, (Fr.trans (hf1.un (by omega)) (hf2.un (by omega)))⟩
              · skip
                by_cases cs38_6 : sv = 120
                · skip
                  refine g_lookup (pc := 38) (a := sv) (off := 161) X 199 dX9_isOrder_38 (by omega) (by decide) (by rw [cs38_6]; decide) (by decide) ?_
                  have hin2 := itm_in (n := pd) (f := P) (p := at') (by omega)
                  refine g_aload_n (pc := 199) (pl := 1) X dX9_isOrder_199 rfl ?_
                  refine g_dup (pc := 200) X dX9_isOrder_200 rfl ?_
                  refine g_getf (pc := 201) X zF_X9_isOrder_206 hO rfl dX9_isOrder_201 ?_
                  refine g_iconst (pc := 204) X dX9_isOrder_204 ?_
                  refine g_iadd (pc := 205) X dX9_isOrder_205 ?_
                  refine g_putf (pc := 206) X zW_X9_isOrder_206 hO (by omega) rfl rfl rfl dX9_isOrder_206 (fun H2 hOn hf2 => ?_)
                  replace hNw := hNw.fr hf2 (by omega)
                  replace hPd := hPd.fr hf2 (by omega)
                  replace hOr := hOr.fr hf2 (by omega)
                  replace hO : Ob D y 9 [.ref (y + 1), .ref (y + 2), .int (J kp), .ref (y + 3), .ref (y + 4), .ref (y + 5), .int (J pd), .int (J (at' + 1)), .ref (y + 6), .int (J od), .int (J fi), .int (J la), .int (J pc), .ref (y + 7), .ref (y + 8), .ref (y + 9), .ref (y + 10)] H2 := hOn
                  clear hOn
                  refine g_aload_n (pc := 209) (pl := 1) X dX9_isOrder_209 rfl ?_
                  refine g_iconst (pc := 210) X dX9_isOrder_210 ?_
                  refine gVi (pc := 211) (n2 := 0) (k2 := 0) X cs_X9_isOrder_215 (c_X9_isNumber (zl K) D base y kp pd (at' + 1) od fi la pc f P (up W (4 * od) sv) 1 hq (by omega) hPr (by omega) (by omega)) rfl hO (by omega) ⟨hO, hNw, hPd, hOr⟩ rfl ⟨Nat.le_of_ble_eq_true rfl, Nat.le_of_ble_eq_true rfl⟩ dX9_isOrder_211 (Nat.le_of_ble_eq_true rfl) rfl rfl (fun v211 H3 hp211 hs211 => ?_)
                  rcases hp211 with ⟨ha211, rfl, hO, hNw, hPd, hOr, hu211⟩ | ⟨ha211, rfl, rfl⟩
                  · skip
                    have hb211 := num_bd ha211
                    refine g_zret (pc := 214) X R hH (by first | exact Or.inl rfl | exact Or.inr rfl | omega) dX9_isOrder_214 ?_
                    obtain ⟨eE, eK⟩ := o_one2 (n := pd) (f := P) (p := at') (by omega) ha211
                    have hF1 : ∀ i : Int, 0 ≤ i → i < 4 * od → (up (up W (4 * od) sv) (4 * od + 1) (numV pd P (at' + 1))) i = W i := fun i i0 i1 => (if_neg (by omega)).trans ((if_neg (by omega)).trans (rfl))
                    have hF2 : OrdA pd P at' od (up (up W (4 * od) sv) (4 * od + 1) (numV pd P (at' + 1))) := ⟨(if_neg (by omega)).trans ((if_pos rfl).trans (by omega)), if_pos rfl, fun z => by omega, fun z => by omega, fun z => by omega⟩
                    have hO2 : MoO D y kp pd (ordE pd P at') od fi la pc H3 := by rw [eE]; exact hO
                    exact ⟨_, Or.inl ⟨eK, rfl, hF1, hF2⟩, hO2, hNw, hPd, hOr, (Fr.trans (hf1.un (by omega)) (Fr.trans (hf2.un (by omega)) hu211))⟩
                  · skip
                    refine g_zret (pc := 214) X R hH (by first | exact Or.inl rfl | exact Or.inr rfl | omega) dX9_isOrder_214 ?_
                    obtain ⟨eE, eK⟩ := o_one1 (n := pd) (f := P) (p := at') (by omega) ha211
                    exact ⟨_, Or.inr ⟨eK, rfl⟩, by rw [eE]; exact hO, hNw, hPd, hOr, (Fr.trans (hf1.un (by omega)) (hf2.un (by omega)))⟩
                · skip
                  refine g_lookup (pc := 38) (a := sv) (off := 177) X 215 dX9_isOrder_38 (by omega) (by decide) (by simp [Op.lookupswitch.offset, show ¬ ((43 : Int) = sv) from fun e => cs38_0 e.symm, show ¬ ((45 : Int) = sv) from fun e => cs38_1 e.symm, show ¬ ((99 : Int) = sv) from fun e => cs38_2 e.symm, show ¬ ((109 : Int) = sv) from fun e => cs38_3 e.symm, show ¬ ((110 : Int) = sv) from fun e => cs38_4 e.symm, show ¬ ((114 : Int) = sv) from fun e => cs38_5 e.symm, show ¬ ((120 : Int) = sv) from fun e => cs38_6 e.symm, cs38_0, cs38_1, cs38_2, cs38_3, cs38_4, cs38_5, cs38_6]) (by decide) ?_
                  refine g_iconst (pc := 215) X dX9_isOrder_215 ?_
                  refine g_zret (pc := 216) X R hH (by first | exact Or.inl rfl | exact Or.inr rfl | omega) dX9_isOrder_216 ?_
                  obtain ⟨eE, eK⟩ := o_none (n := pd) (f := P) (p := at') (by omega)
                  exact ⟨_, Or.inr ⟨eK, rfl⟩, by rw [eE]; exact hO, hNw, hPd, hOr, (hf1.un (by omega))⟩

abbrev rm_X9_isText : Room := { frames := 5, cells := 0, slots := 0, locals := 107 }
theorem zW_X9_isText_206 : zW RX9 wsX9_isText 9 7 206 false (tyX9 7) := ⟨RX9, TX9, 17, tyX9, rfl, by decide +kernel, by decide, by decide +kernel, tyX9_ok, nmX9, rfl, rfl, rfl⟩
theorem zW_X9_isText_212 : zW RX9 wsX9_isText 9 9 212 false (tyX9 9) := ⟨RX9, TX9, 17, tyX9, rfl, by decide +kernel, by decide, by decide +kernel, tyX9_ok, nmX9, rfl, rfl, rfl⟩
theorem cs_X9_isText_228 : zCV RX9 wsX9_isText 228 9 yX9_isOrder wsX9_isOrder cX9_isOrder 2 (some .boolean) rm_X9_isText rm_X9_isOrder 0 := ⟨_, _, gX9_isText_X9_isOrder, rfl, ⟨by decide +kernel, by decide +kernel, by decide +kernel⟩, ⟨Nat.le_of_ble_eq_true rfl, Nat.le_of_ble_eq_true rfl⟩, rfl, rfl⟩
theorem zF_X9_isText_212 : zF RX9 wsX9_isText 9 9 212 := ⟨RX9, TX9, 17, rfl, by decide +kernel, by decide, by decide +kernel⟩
theorem cs_X9_isText_218 : zCV RX9 wsX9_isText 218 9 yX9_isSign wsX9_isSign cX9_isSign 3 (some .boolean) rm_X9_isText rm_X9_isSign 1 := ⟨_, _, gX9_isText_X9_isSign, rfl, ⟨by decide +kernel, by decide +kernel, by decide +kernel⟩, ⟨Nat.le_of_ble_eq_true rfl, Nat.le_of_ble_eq_true rfl⟩, rfl, rfl⟩
theorem zF_X9_isText_206 : zF RX9 wsX9_isText 9 7 206 := ⟨RX9, TX9, 17, rfl, by decide +kernel, by decide, by decide +kernel⟩
theorem zF_X9_isText_186 : zF RX9 wsX9_isText 9 6 186 := ⟨RX9, TX9, 17, rfl, by decide +kernel, by decide, by decide +kernel⟩
set_option maxRecDepth 100000 in
theorem c_X9_isText (l : Launch) (D : zD) (base : Nat) (y : Nat) (kp pd at' od fi la pc : Int) (f : Int → Int) (P W : Int → Int) (hq : base ≤ y) (hpd : 0 ≤ pd ∧ pd ≤ 80) (hPr : ∀ i : Int, 0 ≤ i → i < pd → 33 ≤ P i ∧ P i ≤ 126) : Ct l yX9_isText wsX9_isText rm_X9_isText D base [.ref y] (fun H => MoO D y kp pd at' od fi la pc H ∧ NwAt D y f H ∧ Ia D (y + 5) 80 P H ∧ Ia D (y + 6) 112 W H) (PI (fun H v H1 => ∃ (a2 od2 : Int) (k : Nat) (R2 : Int → Int), ((flt pd P 80 0 = -6 ∧ 1 = v ∧ od2 = (k : Int) ∧ k ≤ 27 ∧ TxOk pd P k R2 ∧ pls pd P k = pd) ∨ (flt pd P 80 0 = a2 ∧ 0 ≤ a2 ∧ a2 ≤ 80 ∧ 0 = v)) ∧ MoO D y kp pd a2 od2 fi la pc H1 ∧ NwAt D y f H1 ∧ Ia D (y + 5) 80 P H1 ∧ Ia D (y + 6) 112 R2 H1 ∧ Fr (Un y (y + 1) (y + 6) (y + 7)) 0 H H1)) := by
  refine Ct.of (own := RX9) (cc := cX9_isText) (maxL := 2) (by decide +kernel) rfl (Nat.le_of_ble_eq_true rfl) rfl ?_
  intro K H X R hH hnm hP
  show G K 0 0 H 0 [(0, .ref y)] []
  obtain ⟨hO, hNw, hPd, hOr⟩ := hP
  refine g_aload_n (pc := 0) (pl := 0) X dX9_isText_0 rfl ?_
  refine g_iconst (pc := 1) X dX9_isText_1 ?_
  refine g_putf (pc := 2) X zW_X9_isText_206 hO (by omega) rfl rfl rfl dX9_isText_2 (fun H1 hOn hf1 => ?_)
  replace hNw := hNw.fr hf1 (by omega)
  replace hPd := hPd.fr hf1 (by omega)
  replace hOr := hOr.fr hf1 (by omega)
  replace hO : Ob D y 9 [.ref (y + 1), .ref (y + 2), .int (J kp), .ref (y + 3), .ref (y + 4), .ref (y + 5), .int (J pd), .int (J 0), .ref (y + 6), .int (J od), .int (J fi), .int (J la), .int (J pc), .ref (y + 7), .ref (y + 8), .ref (y + 9), .ref (y + 10)] H1 := hOn
  clear hOn
  refine g_aload_n (pc := 5) (pl := 0) X dX9_isText_5 rfl ?_
  refine g_iconst (pc := 6) X dX9_isText_6 ?_
  refine g_putf (pc := 7) X zW_X9_isText_212 hO (by omega) rfl rfl rfl dX9_isText_7 (fun H2 hOn hf2 => ?_)
  replace hNw := hNw.fr hf2 (by omega)
  replace hPd := hPd.fr hf2 (by omega)
  replace hOr := hOr.fr hf2 (by omega)
  replace hO : Ob D y 9 [.ref (y + 1), .ref (y + 2), .int (J kp), .ref (y + 3), .ref (y + 4), .ref (y + 5), .int (J pd), .int (J 0), .ref (y + 6), .int (J 0), .int (J fi), .int (J la), .int (J pc), .ref (y + 7), .ref (y + 8), .ref (y + 9), .ref (y + 10)] H2 := hOn
  clear hOn
  refine g_iconst (pc := 10) X dX9_isText_10 ?_
  refine g_istore_n (pc := 11) (lv' := [(1, _), (0, _)]) X dX9_isText_11 (by decide) rfl ?_
  refine g_iload_n (pc := 12) (pl := 0) X dX9_isText_12 rfl ?_
  refine g_if_eq (pc := 13) X 45 dX9_isText_13 (by decide) (by omega) (fun c13 => ?_) (fun c13 => ?_)
  · skip
    exact absurd c13 (by decide)
  · skip
    have hL16 : ∀ (fu : Nat) (k : Nat) (ki p : Int) (Rk : Int → Int) (Hx : Heap), 80 - k < fu → (ki = (k : Int)) → (p = pls pd P k) → (3 * (k : Int) ≤ p ∧ p ≤ pd ∧ k ≤ 80) → (flt pd P 80 0 = flt pd P (80 - k) p) → (TxOk pd P k Rk) → (MoO D y kp pd p ki fi la pc Hx) → (NwAt D y f Hx) → (Ia D (y + 5) 80 P Hx) → (Ia D (y + 6) 112 Rk Hx) → (Fr (Un y (y + 1) (y + 6) (y + 7)) 0 H Hx) → G K 0 0 Hx 16 [(0, .ref y)] [] := by
      intro fu
      induction fu with
      | zero => intro k ki p Rk Hx hm; exact absurd hm (Nat.not_lt_zero _)
      | succ fu ih16 =>
        intro k ki p Rk Hx hm he hp h1 hfl hok hO hNw hPd hOr hu3
        subst he
        refine g_aload_n (pc := 16) (pl := 0) X dX9_isText_16 rfl ?_
        refine gVi (pc := 17) (n2 := 0) (k2 := 0) X cs_X9_isText_228 (c_X9_isOrder (zl K) D base y kp pd p (k : Int) fi la pc f P Rk hq (by omega) hPr (by omega)) rfl hO (by omega) ⟨hO, hNw, hPd, hOr⟩ rfl ⟨Nat.le_of_ble_eq_true rfl, Nat.le_of_ble_eq_true rfl⟩ dX9_isText_17 (Nat.le_of_ble_eq_true rfl) rfl rfl (fun v17 H3 hp17 hs17 => ?_)
        rcases hp17 with ⟨R2, ⟨hk, rfl, hkeep, hordA⟩ | ⟨hk, rfl⟩, hO, hNw, hPd, hOr, hu17⟩
        · skip
          have hob := ordE_bd (n := pd) (f := P) (p := p) (by omega) (by omega)
          have hob2 := hob.2.2 hk
          refine g_if_ne (pc := 20) X 25 dX9_isText_20 (by decide) (by omega) (fun c20 => ?_) (fun c20 => ?_)
          · skip
            refine g_aload_n (pc := 25) (pl := 0) X dX9_isText_25 rfl ?_
            refine g_dup (pc := 26) X dX9_isText_26 rfl ?_
            refine g_getf (pc := 27) X zF_X9_isText_212 hO rfl dX9_isText_27 ?_
            refine g_iconst (pc := 30) X dX9_isText_30 ?_
            refine g_iadd (pc := 31) X dX9_isText_31 ?_
            refine g_putf (pc := 32) X zW_X9_isText_212 hO (by omega) rfl rfl rfl dX9_isText_32 (fun H4 hOn hf4 => ?_)
            replace hNw := hNw.fr hf4 (by omega)
            replace hPd := hPd.fr hf4 (by omega)
            replace hOr := hOr.fr hf4 (by omega)
            replace hO : Ob D y 9 [.ref (y + 1), .ref (y + 2), .int (J kp), .ref (y + 3), .ref (y + 4), .ref (y + 5), .int (J pd), .int (J (ordE pd P p)), .ref (y + 6), .int (J ((k : Int) + 1)), .int (J fi), .int (J la), .int (J pc), .ref (y + 7), .ref (y + 8), .ref (y + 9), .ref (y + 10)] H4 := hOn
            clear hOn
            refine g_aload_n (pc := 35) (pl := 0) X dX9_isText_35 rfl ?_
            refine g_bipush (pc := 36) X dX9_isText_36 (by decide +kernel) ?_
            refine gVi (pc := 38) (n2 := 0) (k2 := 0) X cs_X9_isText_218 (c_X9_isSign (zl K) D base y kp pd (ordE pd P p) ((k : Int) + 1) fi la pc f P 59 hq (by omega) hPr (by omega)) rfl hO (by omega) ⟨hO, hNw, hPd⟩ rfl ⟨Nat.le_of_ble_eq_true rfl, Nat.le_of_ble_eq_true rfl⟩ dX9_isText_38 (Nat.le_of_ble_eq_true rfl) rfl rfl (fun v38 H5 hp38 hs38 => ?_)
            rcases hp38 with ⟨ha38, rfl, hO, hNw, hPd, hf38⟩ | ⟨ha38, rfl, hO, hNw, hPd, hf38⟩
            · skip
              have hb38 := itm_in (n := pd) (f := P) (p := ordE pd P p) (by omega)
              replace hOr := hOr.fr hf38 (by omega)
              refine g_istore_n (pc := 41) (lv' := [(1, _), (0, _)]) X dX9_isText_41 (by decide) rfl ?_
              refine g_goto (pc := 42) X 12 dX9_isText_42 (by decide) ?_
              refine g_iload_n (pc := 12) (pl := 0) X dX9_isText_12 rfl ?_
              refine g_if_eq (pc := 13) X 45 dX9_isText_13 (by decide) (by omega) (fun c13 => ?_) (fun c13 => ?_)
              · skip
                exact absurd c13 (by decide)
              · skip
                refine G.pick [1] (lv' := [(0, _)]) rfl ?_
                have e9 := flt_go (k := 80 - (k + 1)) hk (by omega) ha38
                rw [show 80 - (k + 1) + 1 = 80 - k by omega] at e9
                have htx : TxOk pd P (k + 1) R2 := fun j hj => by
                  by_cases c : j = k
                  · rw [c, ← hp]; exact ⟨hk, hordA⟩
                  · exact ⟨(hok j (by omega)).1, (hok j (by omega)).2.keep (by omega) hkeep⟩
                have eN : ordE pd P p + 1 = pls pd P (k + 1) := by show _ = nxP pd P (pls pd P k); rw [← hp]; exact (if_pos ha38).symm
                exact ih16 (k + 1) _ _ R2 H5 (by omega) (by omega) eN (by omega) (hfl.trans e9) htx hO hNw hPd hOr (Fr.trans hu3 (Fr.trans hu17 (Fr.trans (hf4.un (by omega)) (hf38.un (by omega)))))
            · skip
              replace hOr := hOr.fr hf38 (by omega)
              refine g_istore_n (pc := 41) (lv' := [(1, _), (0, _)]) X dX9_isText_41 (by decide) rfl ?_
              refine g_goto (pc := 42) X 12 dX9_isText_42 (by decide) ?_
              refine g_iload_n (pc := 12) (pl := 0) X dX9_isText_12 rfl ?_
              refine g_if_eq (pc := 13) X 45 dX9_isText_13 (by decide) (by omega) (fun c13 => ?_) (fun c13 => ?_)
              · skip
                refine g_aload_n (pc := 45) (pl := 1) X dX9_isText_45 rfl ?_
                refine g_getf (pc := 46) X zF_X9_isText_206 hO rfl dX9_isText_46 ?_
                refine g_aload_n (pc := 49) (pl := 1) X dX9_isText_49 rfl ?_
                refine g_getf (pc := 50) X zF_X9_isText_186 hO rfl dX9_isText_50 ?_
                refine g_icmp_ne (pc := 53) X 60 dX9_isText_53 (by decide) (by omega) (by omega) (fun c53 => ?_) (fun c53 => ?_)
                · skip
                  refine g_iconst (pc := 60) X dX9_isText_60 ?_
                  refine g_zret (pc := 61) X R hH (by first | exact Or.inl rfl | exact Or.inr rfl | omega) dX9_isText_61 ?_
                  have e9 := flt_bad (k := 80 - (k + 1)) hk (by omega) ha38
                  rw [show 80 - (k + 1) + 1 = 80 - k by omega] at e9
                  exact ⟨_, _, k + 1, R2, Or.inr ⟨hfl.trans e9, by omega, by omega, rfl⟩, hO, hNw, hPd, hOr, (Fr.trans hu3 (Fr.trans hu17 (Fr.trans (hf4.un (by omega)) (hf38.un (by omega)))))⟩
                · skip
                  refine g_iconst (pc := 56) X dX9_isText_56 ?_
                  refine g_goto (pc := 57) X 61 dX9_isText_57 (by decide) ?_
                  refine g_zret (pc := 61) X R hH (by first | exact Or.inl rfl | exact Or.inr rfl | omega) dX9_isText_61 ?_
                  have e9 := flt_end (k := 80 - (k + 1)) hk (by omega)
                  rw [show 80 - (k + 1) + 1 = 80 - k by omega] at e9
                  have htx : TxOk pd P (k + 1) R2 := fun j hj => by
                    by_cases c : j = k
                    · rw [c, ← hp]; exact ⟨hk, hordA⟩
                    · exact ⟨(hok j (by omega)).1, (hok j (by omega)).2.keep (by omega) hkeep⟩
                  have eN : pls pd P (k + 1) = pd := by show nxP pd P (pls pd P k) = pd; rw [← hp]; exact (if_neg ha38).trans (by omega)
                  exact ⟨_, _, k + 1, R2, Or.inl ⟨hfl.trans e9, rfl, by omega, by omega, htx, eN⟩, hO, hNw, hPd, hOr, (Fr.trans hu3 (Fr.trans hu17 (Fr.trans (hf4.un (by omega)) (hf38.un (by omega)))))⟩
              · skip
                exact absurd (by decide) c13
          · skip
            exact absurd c20 (by decide)
        · skip
          have hob := ordE_bd (n := pd) (f := P) (p := p) (by omega) (by omega)
          refine g_if_ne (pc := 20) X 25 dX9_isText_20 (by decide) (by omega) (fun c20 => ?_) (fun c20 => ?_)
          · skip
            exact absurd c20 (by decide)
          · skip
            refine g_iconst (pc := 23) X dX9_isText_23 ?_
            refine g_zret (pc := 24) X R hH (by first | exact Or.inl rfl | exact Or.inr rfl | omega) dX9_isText_24 ?_
            have e9 := flt_no (k := 80 - (k + 1)) hk
            rw [show 80 - (k + 1) + 1 = 80 - k by omega] at e9
            exact ⟨_, _, k, R2, Or.inr ⟨hfl.trans e9, by omega, by omega, rfl⟩, hO, hNw, hPd, hOr, (Fr.trans hu3 hu17)⟩
    refine G.pick [1] (lv' := [(0, _)]) rfl ?_
    exact hL16 _ 0 _ 0 W H2 (Nat.lt_succ_self _) rfl rfl (by omega) rfl (fun j hj => absurd hj (Nat.not_lt_zero _)) hO hNw hPd hOr (Fr.trans (hf1.un (by omega)) (hf2.un (by omega)))

abbrev rm_X9_fault : Room := { frames := 6, cells := 0, slots := 0, locals := 128 }
theorem cs_X9_fault_231 : zCV RX9 wsX9_fault 231 9 yX9_isText wsX9_isText cX9_isText 2 (some .boolean) rm_X9_fault rm_X9_isText 0 := ⟨_, _, gX9_fault_X9_isText, rfl, ⟨by decide +kernel, by decide +kernel, by decide +kernel⟩, ⟨Nat.le_of_ble_eq_true rfl, Nat.le_of_ble_eq_true rfl⟩, rfl, rfl⟩
theorem zF_X9_fault_206 : zF RX9 wsX9_fault 9 7 206 := ⟨RX9, TX9, 17, rfl, by decide +kernel, by decide, by decide +kernel⟩
set_option maxRecDepth 100000 in
theorem c_X9_fault (l : Launch) (D : zD) (base : Nat) (y : Nat) (kp pd at' od fi la pc : Int) (f : Int → Int) (P W : Int → Int) (hq : base ≤ y) (hpd : 0 ≤ pd ∧ pd ≤ 80) (hPr : ∀ i : Int, 0 ≤ i → i < pd → 33 ≤ P i ∧ P i ≤ 126) : Ct l yX9_fault wsX9_fault rm_X9_fault D base [.ref y] (fun H => MoO D y kp pd at' od fi la pc H ∧ NwAt D y f H ∧ Ia D (y + 5) 80 P H ∧ Ia D (y + 6) 112 W H) (PI (fun H v H1 => flt pd P 80 0 = v ∧ MoE D y kp pd H1 ∧ NwAt D y f H1 ∧ Ia D (y + 5) 80 P H1 ∧ (∃ R2 : Int → Int, Ia D (y + 6) 112 R2 H1) ∧ Fr (Un y (y + 1) (y + 6) (y + 7)) 0 H H1)) := by
  refine Ct.of (own := RX9) (cc := cX9_fault) (maxL := 1) (by decide +kernel) rfl (Nat.le_of_ble_eq_true rfl) rfl ?_
  intro K H X R hH hnm hP
  show G K 0 0 H 0 [(0, .ref y)] []
  obtain ⟨hO, hNw, hPd, hOr⟩ := hP
  refine g_aload_n (pc := 0) (pl := 0) X dX9_fault_0 rfl ?_
  refine gVi (pc := 1) (n2 := 0) (k2 := 0) X cs_X9_fault_231 (c_X9_isText (zl K) D base y kp pd at' od fi la pc f P W hq hpd hPr) rfl hO (by omega) ⟨hO, hNw, hPd, hOr⟩ rfl ⟨Nat.le_of_ble_eq_true rfl, Nat.le_of_ble_eq_true rfl⟩ dX9_fault_1 (Nat.le_of_ble_eq_true rfl) rfl rfl (fun v1 H1 hp1 hs1 => ?_)
  rcases hp1 with ⟨a2, od2, kk, R2, ⟨hfl, rfl, hod2, hk27, htx, hpe⟩ | ⟨hfl, ha0, ha80, rfl⟩, hO, hNw, hPd, hOr, hux⟩
  · skip
    refine g_if_eq (pc := 4) X 12 dX9_fault_4 (by decide) (by omega) (fun c4 => ?_) (fun c4 => ?_)
    · skip
      exact absurd c4 (by decide)
    · skip
      refine g_bipush (pc := 7) X dX9_fault_7 (by decide +kernel) ?_
      refine g_goto (pc := 9) X 16 dX9_fault_9 (by decide) ?_
      refine g_iret (pc := 16) X R hH dX9_fault_16 ?_
      exact ⟨hfl, ⟨_, _, _, _, _, hO⟩, hNw, hPd, ⟨_, hOr⟩, hux⟩
  · skip
    refine g_if_eq (pc := 4) X 12 dX9_fault_4 (by decide) (by omega) (fun c4 => ?_) (fun c4 => ?_)
    · skip
      refine g_aload_n (pc := 12) (pl := 0) X dX9_fault_12 rfl ?_
      refine g_getf (pc := 13) X zF_X9_fault_206 hO rfl dX9_fault_13 ?_
      refine g_iret (pc := 16) X R hH dX9_fault_16 ?_
      exact ⟨hfl, ⟨_, _, _, _, _, hO⟩, hNw, hPd, ⟨_, hOr⟩, hux⟩
    · skip
      exact absurd (by decide) c4

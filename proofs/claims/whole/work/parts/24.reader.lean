/-- the reader: where it is, the sort of order, where letters begin, its numbers -/
def RdAt (D : zD) (w : Nat) (nx kd lf cn : Int) (fn : Int → Int) (H : Heap) : Prop := Ob D w 3 [.int (J nx), .int (J kd), .int (J lf), .ref (w + 1)] H ∧ RowAt D (w + 1) 3 cn fn H
theorem RdAt.fr {D : zD} {w a b d : Nat} {nx kd lf cn : Int} {fn : Int → Int} {H H' : Heap} (h : RdAt D w nx kd lf cn fn H) (f : Fr (Iv a b) d H H') (e : w + 3 ≤ a ∨ b ≤ w) : RdAt D w nx kd lf cn fn H' := ⟨h.1.fr f (by omega), h.2.fr f (by omega)⟩

abbrev rm_X3_isDigit : Room := { frames := 0, cells := 0, slots := 0, locals := 0 }
set_option maxRecDepth 100000 in
theorem c_X3_isDigit (l : Launch) (D : zD) (base : Nat) (c : Int) (hc : rg c) : Ct l yX3_isDigit wsX3_isDigit rm_X3_isDigit D base [.int (J c)] (fun _ => True) (PI (fun H v H1 => H = H1 ∧ (if isD c then 1 else 0) = v)) := by
  refine Ct.of (own := RX3) (cc := cX3_isDigit) (maxL := 1) (by decide +kernel) rfl (Nat.le_of_ble_eq_true rfl) rfl ?_
  intro K H X R hH hnm hP
  show G K 0 0 H 0 [(0, .int (J c))] []
  refine g_iload_n (pc := 0) (pl := 0) X dX3_isDigit_0 rfl ?_
  refine g_bipush (pc := 1) X dX3_isDigit_1 (by decide +kernel) ?_
  refine g_icmp_lt (pc := 3) X 16 dX3_isDigit_3 (by decide) (by omega) (by omega) (fun c3 => ?_) (fun c3 => ?_)
  · skip
    refine g_iconst (pc := 16) X dX3_isDigit_16 ?_
    refine g_zret (pc := 17) X R hH (by first | exact Or.inl rfl | exact Or.inr rfl | omega) dX3_isDigit_17 ?_
    refine ⟨rfl, ?_⟩
    split <;> first | rfl | (exfalso; omega)
  · skip
    refine g_iload_n (pc := 6) (pl := 0) X dX3_isDigit_6 rfl ?_
    refine g_bipush (pc := 7) X dX3_isDigit_7 (by decide +kernel) ?_
    refine g_icmp_gt (pc := 9) X 16 dX3_isDigit_9 (by decide) (by omega) (by omega) (fun c9 => ?_) (fun c9 => ?_)
    · skip
      refine g_iconst (pc := 16) X dX3_isDigit_16 ?_
      refine g_zret (pc := 17) X R hH (by first | exact Or.inl rfl | exact Or.inr rfl | omega) dX3_isDigit_17 ?_
      refine ⟨rfl, ?_⟩
      split <;> first | rfl | (exfalso; omega)
    · skip
      refine g_iconst (pc := 12) X dX3_isDigit_12 ?_
      refine g_goto (pc := 13) X 17 dX3_isDigit_13 (by decide) ?_
      refine g_zret (pc := 17) X R hH (by first | exact Or.inl rfl | exact Or.inr rfl | omega) dX3_isDigit_17 ?_
      refine ⟨rfl, ?_⟩
      split <;> first | rfl | (exfalso; omega)

abbrev rm_X3_isLetter : Room := { frames := 0, cells := 0, slots := 0, locals := 0 }
set_option maxRecDepth 100000 in
theorem c_X3_isLetter (l : Launch) (D : zD) (base : Nat) (c : Int) (hc : rg c) : Ct l yX3_isLetter wsX3_isLetter rm_X3_isLetter D base [.int (J c)] (fun _ => True) (PI (fun H v H1 => H = H1 ∧ (if isL c then 1 else 0) = v)) := by
  refine Ct.of (own := RX3) (cc := cX3_isLetter) (maxL := 1) (by decide +kernel) rfl (Nat.le_of_ble_eq_true rfl) rfl ?_
  intro K H X R hH hnm hP
  show G K 0 0 H 0 [(0, .int (J c))] []
  refine g_iload_n (pc := 0) (pl := 0) X dX3_isLetter_0 rfl ?_
  refine g_bipush (pc := 1) X dX3_isLetter_1 (by decide +kernel) ?_
  refine g_icmp_lt (pc := 3) X 16 dX3_isLetter_3 (by decide) (by omega) (by omega) (fun c3 => ?_) (fun c3 => ?_)
  · skip
    refine g_iconst (pc := 16) X dX3_isLetter_16 ?_
    refine g_zret (pc := 17) X R hH (by first | exact Or.inl rfl | exact Or.inr rfl | omega) dX3_isLetter_17 ?_
    refine ⟨rfl, ?_⟩
    split <;> first | rfl | (exfalso; omega)
  · skip
    refine g_iload_n (pc := 6) (pl := 0) X dX3_isLetter_6 rfl ?_
    refine g_bipush (pc := 7) X dX3_isLetter_7 (by decide +kernel) ?_
    refine g_icmp_gt (pc := 9) X 16 dX3_isLetter_9 (by decide) (by omega) (by omega) (fun c9 => ?_) (fun c9 => ?_)
    · skip
      refine g_iconst (pc := 16) X dX3_isLetter_16 ?_
      refine g_zret (pc := 17) X R hH (by first | exact Or.inl rfl | exact Or.inr rfl | omega) dX3_isLetter_17 ?_
      refine ⟨rfl, ?_⟩
      split <;> first | rfl | (exfalso; omega)
    · skip
      refine g_iconst (pc := 12) X dX3_isLetter_12 ?_
      refine g_goto (pc := 13) X 17 dX3_isLetter_13 (by decide) ?_
      refine g_zret (pc := 17) X R hH (by first | exact Or.inl rfl | exact Or.inr rfl | omega) dX3_isLetter_17 ?_
      refine ⟨rfl, ?_⟩
      split <;> first | rfl | (exfalso; omega)

abbrev rm_X3_start : Room := { frames := 0, cells := 0, slots := 0, locals := 0 }
theorem zW_X3_start_20 : zW RX3 wsX3_start 3 0 20 false (tyX3 0) := ⟨RX3, TX3, 4, tyX3, rfl, by decide +kernel, by decide, by decide +kernel, tyX3_ok, nmX3, rfl, rfl, rfl⟩
set_option maxRecDepth 100000 in
theorem c_X3_start (l : Launch) (D : zD) (base : Nat) (w : Nat) (nx kd lf cn : Int) (fn : Int → Int) (hq : base ≤ w) : Ct l yX3_start wsX3_start rm_X3_start D base [.ref w] (fun H => RdAt D w nx kd lf cn fn H) (PV (fun H H1 => RdAt D w 0 kd lf cn fn H1 ∧ Fr (Iv w (w + 3)) 0 H H1)) := by
  refine Ct.of (own := RX3) (cc := cX3_start) (maxL := 1) (by decide +kernel) rfl (Nat.le_of_ble_eq_true rfl) rfl ?_
  intro K H X R hH hnm hP
  show G K 0 0 H 0 [(0, .ref w)] []
  obtain ⟨hO, hNu⟩ := hP
  refine g_aload_n (pc := 0) (pl := 0) X dX3_start_0 rfl ?_
  refine g_iconst (pc := 1) X dX3_start_1 ?_
  refine g_putf (pc := 2) X zW_X3_start_20 hO (by omega) rfl rfl rfl dX3_start_2 (fun H1 hOn hf1 => ?_)
  replace hNu := hNu.fr hf1 (by omega)
  replace hO : Ob D w 3 [.int (J 0), .int (J kd), .int (J lf), .ref (w + 1)] H1 := hOn
  clear hOn
  refine g_vret (pc := 5) X R hH dX3_start_5 ?_
  exact ⟨⟨hO, hNu⟩, (hf1.wide (by omega) (by omega))⟩

abbrev rm_X3_skip : Room := { frames := 1, cells := 0, slots := 0, locals := 21 }
theorem zF_X3_skip_20 : zF RX3 wsX3_skip 3 0 20 := ⟨RX3, TX3, 4, rfl, by decide +kernel, by decide, by decide +kernel⟩
theorem cs_X3_skip_38 : zCV RX3 wsX3_skip 38 6 yX6_item wsX6_item cX6_item 2 (some .int) rm_X3_skip rm_X6_item 1 := ⟨_, _, gX3_skip_X6_item, rfl, ⟨by decide +kernel, by decide +kernel, by decide +kernel⟩, ⟨Nat.le_of_ble_eq_true rfl, Nat.le_of_ble_eq_true rfl⟩, rfl, rfl⟩
theorem zW_X3_skip_20 : zW RX3 wsX3_skip 3 0 20 false (tyX3 0) := ⟨RX3, TX3, 4, tyX3, rfl, by decide +kernel, by decide, by decide +kernel, tyX3_ok, nmX3, rfl, rfl, rfl⟩
set_option maxRecDepth 100000 in
theorem c_X3_skip (l : Launch) (D : zD) (base : Nat) (w r : Nat) (nx kd lf cn n : Int) (fn f : Int → Int) (c : Int) (hq : base ≤ w) (hr : base ≤ r) (hd : w + 3 ≤ r ∨ r + 2 ≤ w) (hnx : 0 ≤ nx ∧ nx ≤ n) (hf : ∀ i : Int, 0 ≤ i → i < n → 33 ≤ f i ∧ f i ≤ 126) (hc : 0 ≤ c ∧ c ≤ 200) : Ct l yX3_skip wsX3_skip rm_X3_skip D base [.ref w, .ref r, .int (J c)] (fun H => RdAt D w nx kd lf cn fn H ∧ RowAt D r 80 n f H) (PI (fun H v H1 => (itm n f nx = c ∧ v = 1 ∧ RdAt D w (nx + 1) kd lf cn fn H1 ∧ RowAt D r 80 n f H1 ∧ Fr (Iv w (w + 3)) 0 H H1) ∨ (¬ itm n f nx = c ∧ v = 0 ∧ H = H1))) := by
  refine Ct.of (own := RX3) (cc := cX3_skip) (maxL := 3) (by decide +kernel) rfl (Nat.le_of_ble_eq_true rfl) rfl ?_
  intro K H X R hH hnm hP
  show G K 0 0 H 0 [(0, .ref w), (1, .ref r), (2, .int (J c))] []
  obtain ⟨⟨hO, hNu⟩, hF⟩ := hP
  have hbd := hF.bd
  have hbn := hNu.bd
  have hit : ∀ p : Int, -1 ≤ itm n f p ∧ itm n f p ≤ 126 := fun p => by unfold itm; split; (next c => have := hf p c.1 c.2; omega); omega
  refine g_aload_n (pc := 0) (pl := 1) X dX3_skip_0 rfl ?_
  refine g_aload_n (pc := 1) (pl := 0) X dX3_skip_1 rfl ?_
  refine g_getf (pc := 2) X zF_X3_skip_20 hO rfl dX3_skip_2 ?_
  obtain ⟨hFO, -⟩ := id hF
  refine gVi (pc := 5) (n2 := 0) (k2 := 0) X cs_X3_skip_38 (c_X6_item (zl K) D base r 80 n f nx (by omega)) rfl hFO (by omega) hF rfl ⟨Nat.le_of_ble_eq_true rfl, Nat.le_of_ble_eq_true rfl⟩ dX3_skip_5 (Nat.le_of_ble_eq_true rfl) rfl rfl (fun v5 H1 hp5 hs5 => ?_)
  obtain ⟨rfl, rfl⟩ := hp5
  have hi5 := hit nx
  refine g_iload_n (pc := 8) (pl := 2) X dX3_skip_8 rfl ?_
  refine g_icmp_eq (pc := 9) X 14 dX3_skip_9 (by decide) (by omega) (by omega) (fun c9 => ?_) (fun c9 => ?_)
  · skip
    refine g_aload_n (pc := 14) (pl := 0) X dX3_skip_14 rfl ?_
    refine g_dup (pc := 15) X dX3_skip_15 rfl ?_
    refine g_getf (pc := 16) X zF_X3_skip_20 hO rfl dX3_skip_16 ?_
    refine g_iconst (pc := 19) X dX3_skip_19 ?_
    refine g_iadd (pc := 20) X dX3_skip_20 ?_
    refine g_putf (pc := 21) X zW_X3_skip_20 hO (by omega) rfl rfl rfl dX3_skip_21 (fun H1 hOn hf1 => ?_)
    replace hNu := hNu.fr hf1 (by omega)
    replace hF := hF.fr hf1 (by omega)
    replace hO : Ob D w 3 [.int (J (nx + 1)), .int (J kd), .int (J lf), .ref (w + 1)] H1 := hOn
    clear hOn
    refine g_iconst (pc := 24) X dX3_skip_24 ?_
    refine g_zret (pc := 25) X R hH (by first | exact Or.inl rfl | exact Or.inr rfl | omega) dX3_skip_25 ?_
    exact Or.inl ⟨c9, rfl, ⟨hO, hNu⟩, hF, (hf1.wide (by omega) (by omega))⟩
  · skip
    refine g_iconst (pc := 12) X dX3_skip_12 ?_
    refine g_zret (pc := 13) X R hH (by first | exact Or.inl rfl | exact Or.inr rfl | omega) dX3_skip_13 ?_
    exact Or.inr ⟨c9, rfl, rfl⟩

abbrev rm_X3_readNumber : Room := { frames := 1, cells := 0, slots := 0, locals := 21 }
theorem zF_X3_readNumber_20 : zF RX3 wsX3_readNumber 3 0 20 := ⟨RX3, TX3, 4, rfl, by decide +kernel, by decide, by decide +kernel⟩
theorem cs_X3_readNumber_38 : zCV RX3 wsX3_readNumber 38 6 yX6_item wsX6_item cX6_item 2 (some .int) rm_X3_readNumber rm_X6_item 1 := ⟨_, _, gX3_readNumber_X6_item, rfl, ⟨by decide +kernel, by decide +kernel, by decide +kernel⟩, ⟨Nat.le_of_ble_eq_true rfl, Nat.le_of_ble_eq_true rfl⟩, rfl, rfl⟩
theorem cs_X3_readNumber_54 : zCJ RX3 wsX3_readNumber 54 yX3_isDigit wsX3_isDigit cX3_isDigit 1 (some .boolean) rm_X3_readNumber rm_X3_isDigit 1 := ⟨_, gX3_readNumber_X3_isDigit, rfl, ⟨by decide +kernel, by decide +kernel, by decide +kernel⟩, ⟨Nat.le_of_ble_eq_true rfl, Nat.le_of_ble_eq_true rfl⟩⟩
theorem zW_X3_readNumber_20 : zW RX3 wsX3_readNumber 3 0 20 false (tyX3 0) := ⟨RX3, TX3, 4, tyX3, rfl, by decide +kernel, by decide, by decide +kernel, tyX3_ok, nmX3, rfl, rfl, rfl⟩
theorem zF_X3_readNumber_14 : zF RX3 wsX3_readNumber 3 3 14 := ⟨RX3, TX3, 4, rfl, by decide +kernel, by decide, by decide +kernel⟩
theorem cs_X3_readNumber_58 : zCV RX3 wsX3_readNumber 58 6 yX6_add wsX6_add cX6_add 2 none rm_X3_readNumber rm_X6_add 1 := ⟨_, _, gX3_readNumber_X6_add, rfl, ⟨by decide +kernel, by decide +kernel, by decide +kernel⟩, ⟨Nat.le_of_ble_eq_true rfl, Nat.le_of_ble_eq_true rfl⟩, rfl, rfl⟩
set_option maxRecDepth 100000 in
theorem c_X3_readNumber (l : Launch) (D : zD) (base : Nat) (w r : Nat) (nx kd lf cn n : Int) (fn f : Int → Int) (hq : base ≤ w) (hr : base ≤ r) (hd : w + 3 ≤ r ∨ r + 2 ≤ w) (hnx : 0 ≤ nx ∧ nx ≤ n) (hf : ∀ i : Int, 0 ≤ i → i < n → 33 ≤ f i ∧ f i ≤ 126) (hcn : cn < 3) : Ct l yX3_readNumber wsX3_readNumber rm_X3_readNumber D base [.ref w, .ref r] (fun H => RdAt D w nx kd lf cn fn H ∧ RowAt D r 80 n f H) (PI (fun H v H1 => (numOk n f nx ∧ v = 1 ∧ RdAt D w (numE n f nx) kd lf (cn + 1) (up fn cn (numV n f nx)) H1 ∧ RowAt D r 80 n f H1 ∧ Fr (Iv w (w + 3)) 0 H H1) ∨ (¬ numOk n f nx ∧ v = 0 ∧ H = H1))) := by
  refine Ct.of (own := RX3) (cc := cX3_readNumber) (maxL := 3) (by decide +kernel) rfl (Nat.le_of_ble_eq_true rfl) rfl ?_
  intro K H X R hH hnm hP
  show G K 0 0 H 0 [(0, .ref w), (1, .ref r)] []
  obtain ⟨⟨hO, hNu⟩, hF⟩ := hP
  have hbd := hF.bd
  have hbn := hNu.bd
  have hit : ∀ p : Int, -1 ≤ itm n f p ∧ itm n f p ≤ 126 := fun p => by unfold itm; split; (next c => have := hf p c.1 c.2; omega); omega
  refine g_aload_n (pc := 0) (pl := 1) X dX3_readNumber_0 rfl ?_
  refine g_aload_n (pc := 1) (pl := 0) X dX3_readNumber_1 rfl ?_
  refine g_getf (pc := 2) X zF_X3_readNumber_20 hO rfl dX3_readNumber_2 ?_
  obtain ⟨hFO, -⟩ := id hF
  refine gVi (pc := 5) (n2 := 0) (k2 := 0) X cs_X3_readNumber_38 (c_X6_item (zl K) D base r 80 n f nx (by omega)) rfl hFO (by omega) hF rfl ⟨Nat.le_of_ble_eq_true rfl, Nat.le_of_ble_eq_true rfl⟩ dX3_readNumber_5 (Nat.le_of_ble_eq_true rfl) rfl rfl (fun v5 H1 hp5 hs5 => ?_)
  obtain ⟨rfl, rfl⟩ := hp5
  have hi5 := hit nx
  refine gJi (pc := 8) (n2 := 0) (k2 := 0) X cs_X3_readNumber_54 (c_X3_isDigit (zl K) D base (itm n f nx) (by omega)) rfl (by have := hO.lt; omega) trivial rfl ⟨Nat.le_of_ble_eq_true rfl, Nat.le_of_ble_eq_true rfl⟩ dX3_readNumber_8 (Nat.le_of_ble_eq_true rfl) rfl rfl (fun v8 H1 hp8 hs8 => ?_)
  obtain ⟨rfl, rfl⟩ := hp8
  refine g_if_ne (pc := 11) X 16 dX3_readNumber_11 (by decide) (zbr _) (fun c11 => ?_) (fun c11 => ?_)
  · skip
    replace c11 := zb1 c11
    refine g_aload_n (pc := 16) (pl := 1) X dX3_readNumber_16 rfl ?_
    refine g_aload_n (pc := 17) (pl := 0) X dX3_readNumber_17 rfl ?_
    refine g_getf (pc := 18) X zF_X3_readNumber_20 hO rfl dX3_readNumber_18 ?_
    obtain ⟨hFO, -⟩ := id hF
    refine gVi (pc := 21) (n2 := 0) (k2 := 0) X cs_X3_readNumber_38 (c_X6_item (zl K) D base r 80 n f nx (by omega)) rfl hFO (by omega) hF rfl ⟨Nat.le_of_ble_eq_true rfl, Nat.le_of_ble_eq_true rfl⟩ dX3_readNumber_21 (Nat.le_of_ble_eq_true rfl) rfl rfl (fun v21 H1 hp21 hs21 => ?_)
    obtain ⟨rfl, rfl⟩ := hp21
    have hi21 := hit nx
    refine g_bipush (pc := 24) X dX3_readNumber_24 (by decide +kernel) ?_
    refine g_isub (pc := 26) X dX3_readNumber_26 ?_
    refine g_istore_n (pc := 27) (lv' := [(2, _), (0, _), (1, _)]) X dX3_readNumber_27 (by decide) rfl ?_
    refine g_aload_n (pc := 28) (pl := 1) X dX3_readNumber_28 rfl ?_
    refine g_dup (pc := 29) X dX3_readNumber_29 rfl ?_
    refine g_getf (pc := 30) X zF_X3_readNumber_20 hO rfl dX3_readNumber_30 ?_
    refine g_iconst (pc := 33) X dX3_readNumber_33 ?_
    refine g_iadd (pc := 34) X dX3_readNumber_34 ?_
    refine g_putf (pc := 35) X zW_X3_readNumber_20 hO (by omega) rfl rfl rfl dX3_readNumber_35 (fun H1 hOn hf1 => ?_)
    replace hNu := hNu.fr hf1 (by omega)
    replace hF := hF.fr hf1 (by omega)
    replace hO : Ob D w 3 [.int (J (nx + 1)), .int (J kd), .int (J lf), .ref (w + 1)] H1 := hOn
    clear hOn
    refine g_iload_n (pc := 38) (pl := 0) X dX3_readNumber_38 rfl ?_
    refine g_if_eq (pc := 39) X 83 dX3_readNumber_39 (by decide) (by omega) (fun c39 => ?_) (fun c39 => ?_)
    · skip
      refine g_aload_n (pc := 83) (pl := 1) X dX3_readNumber_83 rfl ?_
      refine g_getf (pc := 84) X zF_X3_readNumber_14 hO rfl dX3_readNumber_84 ?_
      refine g_iload_n (pc := 87) (pl := 0) X dX3_readNumber_87 rfl ?_
      obtain ⟨hRO, -⟩ := id hNu
      refine gVv (pc := 88) (n2 := 0) (k2 := 0) X cs_X3_readNumber_58 (c_X6_add (zl K) D base (w + 1) 3 cn fn ((itm n f nx) - 48) (by omega) (by omega)) rfl hRO (by omega) hNu rfl ⟨Nat.le_of_ble_eq_true rfl, Nat.le_of_ble_eq_true rfl⟩ dX3_readNumber_88 (Nat.le_of_ble_eq_true rfl) rfl rfl (fun H2 hp88 hs88 => ?_)
      obtain ⟨hNun, hfz⟩ := hp88
      replace hO := hO.fr hfz (by omega)
      replace hF := hF.fr hfz (by omega)
      replace hNu := hNun
      clear hNun
      refine g_iconst (pc := 91) X dX3_readNumber_91 ?_
      refine g_zret (pc := 92) X R hH (by first | exact Or.inl rfl | exact Or.inr rfl | omega) dX3_readNumber_92 ?_
      have hn2 : ¬ num2 n f nx := by first | exact fun z => z.1 c39 | exact fun z => c53 z.2
      have e1 : numE n f nx = nx + 1 := if_neg hn2
      have e2 : numV n f nx = itm n f nx - 48 := if_neg hn2
      exact Or.inl ⟨c11, rfl, by rw [e1, e2]; exact ⟨hO, hNu⟩, hF, (Fr.trans (hf1.wide (by omega) (by omega)) (hfz.wide (by omega) (by omega)))⟩
    · skip
      refine g_aload_n (pc := 42) (pl := 2) X dX3_readNumber_42 rfl ?_
      refine g_aload_n (pc := 43) (pl := 1) X dX3_readNumber_43 rfl ?_
      refine g_getf (pc := 44) X zF_X3_readNumber_20 hO rfl dX3_readNumber_44 ?_
      obtain ⟨hFO, -⟩ := id hF
      refine gVi (pc := 47) (n2 := 0) (k2 := 0) X cs_X3_readNumber_38 (c_X6_item (zl K) D base r 80 n f (nx + 1) (by omega)) rfl hFO (by omega) hF rfl ⟨Nat.le_of_ble_eq_true rfl, Nat.le_of_ble_eq_true rfl⟩ dX3_readNumber_47 (Nat.le_of_ble_eq_true rfl) rfl rfl (fun v47 H2 hp47 hs47 => ?_)
      obtain ⟨rfl, rfl⟩ := hp47
      have hi47 := hit (nx + 1)
      refine gJi (pc := 50) (n2 := 0) (k2 := 0) X cs_X3_readNumber_54 (c_X3_isDigit (zl K) D base (itm n f (nx + 1)) (by omega)) rfl (by have := hO.lt; omega) trivial rfl ⟨Nat.le_of_ble_eq_true rfl, Nat.le_of_ble_eq_true rfl⟩ dX3_readNumber_50 (Nat.le_of_ble_eq_true rfl) rfl rfl (fun v50 H2 hp50 hs50 => ?_)
      obtain ⟨rfl, rfl⟩ := hp50
      refine g_if_eq (pc := 53) X 83 dX3_readNumber_53 (by decide) (zbr _) (fun c53 => ?_) (fun c53 => ?_)
      · skip
        replace c53 := zb0 c53
        refine g_aload_n (pc := 83) (pl := 1) X dX3_readNumber_83 rfl ?_
        refine g_getf (pc := 84) X zF_X3_readNumber_14 hO rfl dX3_readNumber_84 ?_
        refine g_iload_n (pc := 87) (pl := 0) X dX3_readNumber_87 rfl ?_
        obtain ⟨hRO, -⟩ := id hNu
        refine gVv (pc := 88) (n2 := 0) (k2 := 0) X cs_X3_readNumber_58 (c_X6_add (zl K) D base (w + 1) 3 cn fn ((itm n f nx) - 48) (by omega) (by omega)) rfl hRO (by omega) hNu rfl ⟨Nat.le_of_ble_eq_true rfl, Nat.le_of_ble_eq_true rfl⟩ dX3_readNumber_88 (Nat.le_of_ble_eq_true rfl) rfl rfl (fun H2 hp88 hs88 => ?_)
        obtain ⟨hNun, hfz⟩ := hp88
        replace hO := hO.fr hfz (by omega)
        replace hF := hF.fr hfz (by omega)
        replace hNu := hNun
        clear hNun
        refine g_iconst (pc := 91) X dX3_readNumber_91 ?_
        refine g_zret (pc := 92) X R hH (by first | exact Or.inl rfl | exact Or.inr rfl | omega) dX3_readNumber_92 ?_
        have hn2 : ¬ num2 n f nx := by first | exact fun z => z.1 c39 | exact fun z => c53 z.2
        have e1 : numE n f nx = nx + 1 := if_neg hn2
        have e2 : numV n f nx = itm n f nx - 48 := if_neg hn2
        exact Or.inl ⟨c11, rfl, by rw [e1, e2]; exact ⟨hO, hNu⟩, hF, (Fr.trans (hf1.wide (by omega) (by omega)) (hfz.wide (by omega) (by omega)))⟩
      · skip
        replace c53 := zb1 c53
        refine g_bipush (pc := 56) X dX3_readNumber_56 (by decide +kernel) ?_
        refine g_iload_n (pc := 58) (pl := 0) X dX3_readNumber_58 rfl ?_
        refine g_imul (pc := 59) X dX3_readNumber_59 ?_
        refine g_aload_n (pc := 60) (pl := 2) X dX3_readNumber_60 rfl ?_
        refine g_aload_n (pc := 61) (pl := 1) X dX3_readNumber_61 rfl ?_
        refine g_getf (pc := 62) X zF_X3_readNumber_20 hO rfl dX3_readNumber_62 ?_
        obtain ⟨hFO, -⟩ := id hF
        refine gVi (pc := 65) (n2 := 0) (k2 := 0) X cs_X3_readNumber_38 (c_X6_item (zl K) D base r 80 n f (nx + 1) (by omega)) rfl hFO (by omega) hF rfl ⟨Nat.le_of_ble_eq_true rfl, Nat.le_of_ble_eq_true rfl⟩ dX3_readNumber_65 (Nat.le_of_ble_eq_true rfl) rfl rfl (fun v65 H2 hp65 hs65 => ?_)
        obtain ⟨rfl, rfl⟩ := hp65
        have hi65 := hit (nx + 1)
        refine g_iadd (pc := 68) X dX3_readNumber_68 ?_
        refine g_bipush (pc := 69) X dX3_readNumber_69 (by decide +kernel) ?_
        refine g_isub (pc := 71) X dX3_readNumber_71 ?_
        refine g_istore_n (pc := 72) (lv' := [(2, _), (0, _), (1, _)]) X dX3_readNumber_72 (by decide) rfl ?_
        refine g_aload_n (pc := 73) (pl := 1) X dX3_readNumber_73 rfl ?_
        refine g_dup (pc := 74) X dX3_readNumber_74 rfl ?_
        refine g_getf (pc := 75) X zF_X3_readNumber_20 hO rfl dX3_readNumber_75 ?_
        refine g_iconst (pc := 78) X dX3_readNumber_78 ?_
        refine g_iadd (pc := 79) X dX3_readNumber_79 ?_
        refine g_putf (pc := 80) X zW_X3_readNumber_20 hO (by omega) rfl rfl rfl dX3_readNumber_80 (fun H2 hOn hf2 => ?_)
        replace hNu := hNu.fr hf2 (by omega)
        replace hF := hF.fr hf2 (by omega)
        replace hO : Ob D w 3 [.int (J ((nx + 1) + 1)), .int (J kd), .int (J lf), .ref (w + 1)] H2 := hOn
        clear hOn
        refine g_aload_n (pc := 83) (pl := 1) X dX3_readNumber_83 rfl ?_
        refine g_getf (pc := 84) X zF_X3_readNumber_14 hO rfl dX3_readNumber_84 ?_
        refine g_iload_n (pc := 87) (pl := 0) X dX3_readNumber_87 rfl ?_
        obtain ⟨hRO, -⟩ := id hNu
        refine gVv (pc := 88) (n2 := 0) (k2 := 0) X cs_X3_readNumber_58 (c_X6_add (zl K) D base (w + 1) 3 cn fn (((10 * ((itm n f nx) - 48)) + (itm n f (nx + 1))) - 48) (by omega) (by omega)) rfl hRO (by omega) hNu rfl ⟨Nat.le_of_ble_eq_true rfl, Nat.le_of_ble_eq_true rfl⟩ dX3_readNumber_88 (Nat.le_of_ble_eq_true rfl) rfl rfl (fun H3 hp88 hs88 => ?_)
        obtain ⟨hNun, hfz⟩ := hp88
        replace hO := hO.fr hfz (by omega)
        replace hF := hF.fr hfz (by omega)
        replace hNu := hNun
        clear hNun
        refine g_iconst (pc := 91) X dX3_readNumber_91 ?_
        refine g_zret (pc := 92) X R hH (by first | exact Or.inl rfl | exact Or.inr rfl | omega) dX3_readNumber_92 ?_
        have hn2 : num2 n f nx := ⟨c39, c53⟩
        have e1 : numE n f nx = nx + 1 + 1 := (if_pos hn2).trans (by omega)
        have e2 : numV n f nx = 10 * (itm n f nx - 48) + itm n f (nx + 1) - 48 := if_pos hn2
        exact Or.inl ⟨c11, rfl, by rw [e1, e2]; exact ⟨hO, hNu⟩, hF, (Fr.trans (hf1.wide (by omega) (by omega)) (Fr.trans (hf2.wide (by omega) (by omega)) (hfz.wide (by omega) (by omega))))⟩
  · skip
    replace c11 := zb0 c11
    refine g_iconst (pc := 14) X dX3_readNumber_14 ?_
    refine g_zret (pc := 15) X R hH (by first | exact Or.inl rfl | exact Or.inr rfl | omega) dX3_readNumber_15 ?_
    exact Or.inr ⟨c11, rfl, rfl⟩

abbrev rm_X3_readLetters : Room := { frames := 1, cells := 0, slots := 0, locals := 21 }
theorem zF_X3_readLetters_20 : zF RX3 wsX3_readLetters 3 0 20 := ⟨RX3, TX3, 4, rfl, by decide +kernel, by decide, by decide +kernel⟩
theorem zW_X3_readLetters_61 : zW RX3 wsX3_readLetters 3 2 61 false (tyX3 2) := ⟨RX3, TX3, 4, tyX3, rfl, by decide +kernel, by decide, by decide +kernel, tyX3_ok, nmX3, rfl, rfl, rfl⟩
theorem zF_X3_readLetters_31 : zF RX3 wsX3_readLetters 6 1 31 := ⟨RX6, TX6, 2, rfl, by decide +kernel, by decide, by decide +kernel⟩
theorem zF_X3_readLetters_61 : zF RX3 wsX3_readLetters 3 2 61 := ⟨RX3, TX3, 4, rfl, by decide +kernel, by decide, by decide +kernel⟩
theorem cs_X3_readLetters_38 : zCV RX3 wsX3_readLetters 38 6 yX6_item wsX6_item cX6_item 2 (some .int) rm_X3_readLetters rm_X6_item 1 := ⟨_, _, gX3_readLetters_X6_item, rfl, ⟨by decide +kernel, by decide +kernel, by decide +kernel⟩, ⟨Nat.le_of_ble_eq_true rfl, Nat.le_of_ble_eq_true rfl⟩, rfl, rfl⟩
theorem cs_X3_readLetters_64 : zCJ RX3 wsX3_readLetters 64 yX3_isLetter wsX3_isLetter cX3_isLetter 1 (some .boolean) rm_X3_readLetters rm_X3_isLetter 1 := ⟨_, gX3_readLetters_X3_isLetter, rfl, ⟨by decide +kernel, by decide +kernel, by decide +kernel⟩, ⟨Nat.le_of_ble_eq_true rfl, Nat.le_of_ble_eq_true rfl⟩⟩
theorem zW_X3_readLetters_20 : zW RX3 wsX3_readLetters 3 0 20 false (tyX3 0) := ⟨RX3, TX3, 4, tyX3, rfl, by decide +kernel, by decide, by decide +kernel, tyX3_ok, nmX3, rfl, rfl, rfl⟩
set_option maxRecDepth 100000 in
theorem c_X3_readLetters (l : Launch) (D : zD) (base : Nat) (w r : Nat) (nx kd lf cn n : Int) (fn f : Int → Int) (hq : base ≤ w) (hr : base ≤ r) (hd : w + 3 ≤ r ∨ r + 2 ≤ w) (hnx : 0 ≤ nx ∧ nx ≤ n) (hf : ∀ i : Int, 0 ≤ i → i < n → 33 ≤ f i ∧ f i ≤ 126) : Ct l yX3_readLetters wsX3_readLetters rm_X3_readLetters D base [.ref w, .ref r] (fun H => RdAt D w nx kd lf cn fn H ∧ RowAt D r 80 n f H) (PI (fun H v H1 => (nx < ltE n f nx ∧ v = 1 ∨ ¬ nx < ltE n f nx ∧ v = 0) ∧ RdAt D w (ltE n f nx) kd nx cn fn H1 ∧ RowAt D r 80 n f H1 ∧ Fr (Iv w (w + 3)) 0 H H1)) := by
  refine Ct.of (own := RX3) (cc := cX3_readLetters) (maxL := 2) (by decide +kernel) rfl (Nat.le_of_ble_eq_true rfl) rfl ?_
  intro K H X R hH hnm hP
  show G K 0 0 H 0 [(0, .ref w), (1, .ref r)] []
  obtain ⟨⟨hO, hNu⟩, hF⟩ := hP
  have hbd := hF.bd
  have hbn := hNu.bd
  have hit : ∀ p : Int, -1 ≤ itm n f p ∧ itm n f p ≤ 126 := fun p => by unfold itm; split; (next c => have := hf p c.1 c.2; omega); omega
  refine g_aload_n (pc := 0) (pl := 0) X dX3_readLetters_0 rfl ?_
  refine g_aload_n (pc := 1) (pl := 0) X dX3_readLetters_1 rfl ?_
  refine g_getf (pc := 2) X zF_X3_readLetters_20 hO rfl dX3_readLetters_2 ?_
  refine g_putf (pc := 5) X zW_X3_readLetters_61 hO (by omega) rfl rfl rfl dX3_readLetters_5 (fun H1 hOn hf1 => ?_)
  replace hNu := hNu.fr hf1 (by omega)
  replace hF := hF.fr hf1 (by omega)
  replace hO : Ob D w 3 [.int (J nx), .int (J kd), .int (J nx), .ref (w + 1)] H1 := hOn
  clear hOn
  have hL8 : ∀ (fu : Nat) (k : Nat) (y : Int) (Hx : Heap), (n - nx).toNat - k < fu → (nx + (k : Int) ≤ n) → (y = nx + (k : Int)) → (∀ i : Int, 0 ≤ i → i < k → isL (itm n f (nx + i))) → (Ob D w 3 [.int (J y), .int (J kd), .int (J nx), .ref (w + 1)] Hx) → (RowAt D (w + 1) 3 cn fn Hx) → (RowAt D r 80 n f Hx) → (Fr (Iv w (w + 3)) 0 H Hx) → G K 0 0 Hx 8 [(0, .ref w), (1, .ref r)] [] := by
    intro fu
    induction fu with
    | zero => intro k y Hx hm; exact absurd hm (Nat.not_lt_zero _)
    | succ fu ih8 =>
      intro k y Hx hm h1 he h2 hO hNu hF h3
      subst he
      refine g_aload_n (pc := 8) (pl := 0) X dX3_readLetters_8 rfl ?_
      refine g_getf (pc := 9) X zF_X3_readLetters_20 hO rfl dX3_readLetters_9 ?_
      refine g_aload_n (pc := 12) (pl := 1) X dX3_readLetters_12 rfl ?_
      obtain ⟨hFO, -⟩ := id hF
      refine g_getf (pc := 13) X zF_X3_readLetters_31 hFO rfl dX3_readLetters_13 ?_
      refine g_icmp_ge (pc := 16) X 46 dX3_readLetters_16 (by decide) (by omega) (by omega) (fun c16 => ?_) (fun c16 => ?_)
      · skip
        refine g_aload_n (pc := 46) (pl := 0) X dX3_readLetters_46 rfl ?_
        refine g_getf (pc := 47) X zF_X3_readLetters_20 hO rfl dX3_readLetters_47 ?_
        refine g_aload_n (pc := 50) (pl := 0) X dX3_readLetters_50 rfl ?_
        refine g_getf (pc := 51) X zF_X3_readLetters_61 hO rfl dX3_readLetters_51 ?_
        refine g_icmp_le (pc := 54) X 61 dX3_readLetters_54 (by decide) (by omega) (by omega) (fun c54 => ?_) (fun c54 => ?_)
        · skip
          refine g_iconst (pc := 61) X dX3_readLetters_61 ?_
          refine g_zret (pc := 62) X R hH (by first | exact Or.inl rfl | exact Or.inr rfl | omega) dX3_readLetters_62 ?_
          have e1 : (k : Int) = (lead (fun i => decide (isL (itm n f (nx + i)))) (n - nx).toNat : Int) := lead_eq (by omega) (by omega) (fun i a b => decide_eq_true (h2 i a b)) (by first | (left; omega) | (right; exact fun q => c30 (of_decide_eq_true q)))
          have e2 : ltE n f nx = nx + (k : Int) := by unfold ltE; rw [e1]
          exact ⟨by omega, by rw [e2]; exact ⟨hO, hNu⟩, hF, h3⟩
        · skip
          refine g_iconst (pc := 57) X dX3_readLetters_57 ?_
          refine g_goto (pc := 58) X 62 dX3_readLetters_58 (by decide) ?_
          refine g_zret (pc := 62) X R hH (by first | exact Or.inl rfl | exact Or.inr rfl | omega) dX3_readLetters_62 ?_
          have e1 : (k : Int) = (lead (fun i => decide (isL (itm n f (nx + i)))) (n - nx).toNat : Int) := lead_eq (by omega) (by omega) (fun i a b => decide_eq_true (h2 i a b)) (by first | (left; omega) | (right; exact fun q => c30 (of_decide_eq_true q)))
          have e2 : ltE n f nx = nx + (k : Int) := by unfold ltE; rw [e1]
          exact ⟨by omega, by rw [e2]; exact ⟨hO, hNu⟩, hF, h3⟩
      · skip
        refine g_aload_n (pc := 19) (pl := 1) X dX3_readLetters_19 rfl ?_
        refine g_aload_n (pc := 20) (pl := 0) X dX3_readLetters_20 rfl ?_
        refine g_getf (pc := 21) X zF_X3_readLetters_20 hO rfl dX3_readLetters_21 ?_
        obtain ⟨hFO, -⟩ := id hF
        refine gVi (pc := 24) (n2 := 0) (k2 := 0) X cs_X3_readLetters_38 (c_X6_item (zl K) D base r 80 n f (nx + (k : Int)) (by omega)) rfl hFO (by omega) hF rfl ⟨Nat.le_of_ble_eq_true rfl, Nat.le_of_ble_eq_true rfl⟩ dX3_readLetters_24 (Nat.le_of_ble_eq_true rfl) rfl rfl (fun v24 H2 hp24 hs24 => ?_)
        obtain ⟨rfl, rfl⟩ := hp24
        have hi24 := hit (nx + (k : Int))
        refine gJi (pc := 27) (n2 := 0) (k2 := 0) X cs_X3_readLetters_64 (c_X3_isLetter (zl K) D base (itm n f (nx + (k : Int))) (by omega)) rfl (by have := hO.lt; omega) trivial rfl ⟨Nat.le_of_ble_eq_true rfl, Nat.le_of_ble_eq_true rfl⟩ dX3_readLetters_27 (Nat.le_of_ble_eq_true rfl) rfl rfl (fun v27 H2 hp27 hs27 => ?_)
        obtain ⟨rfl, rfl⟩ := hp27
        refine g_if_eq (pc := 30) X 46 dX3_readLetters_30 (by decide) (zbr _) (fun c30 => ?_) (fun c30 => ?_)
        · skip
          replace c30 := zb0 c30
          refine g_aload_n (pc := 46) (pl := 0) X dX3_readLetters_46 rfl ?_
          refine g_getf (pc := 47) X zF_X3_readLetters_20 hO rfl dX3_readLetters_47 ?_
          refine g_aload_n (pc := 50) (pl := 0) X dX3_readLetters_50 rfl ?_
          refine g_getf (pc := 51) X zF_X3_readLetters_61 hO rfl dX3_readLetters_51 ?_
          refine g_icmp_le (pc := 54) X 61 dX3_readLetters_54 (by decide) (by omega) (by omega) (fun c54 => ?_) (fun c54 => ?_)
          · skip
            refine g_iconst (pc := 61) X dX3_readLetters_61 ?_
            refine g_zret (pc := 62) X R hH (by first | exact Or.inl rfl | exact Or.inr rfl | omega) dX3_readLetters_62 ?_
            have e1 : (k : Int) = (lead (fun i => decide (isL (itm n f (nx + i)))) (n - nx).toNat : Int) := lead_eq (by omega) (by omega) (fun i a b => decide_eq_true (h2 i a b)) (by first | (left; omega) | (right; exact fun q => c30 (of_decide_eq_true q)))
            have e2 : ltE n f nx = nx + (k : Int) := by unfold ltE; rw [e1]
            exact ⟨by omega, by rw [e2]; exact ⟨hO, hNu⟩, hF, h3⟩
          · skip
            refine g_iconst (pc := 57) X dX3_readLetters_57 ?_
            refine g_goto (pc := 58) X 62 dX3_readLetters_58 (by decide) ?_
            refine g_zret (pc := 62) X R hH (by first | exact Or.inl rfl | exact Or.inr rfl | omega) dX3_readLetters_62 ?_
            have e1 : (k : Int) = (lead (fun i => decide (isL (itm n f (nx + i)))) (n - nx).toNat : Int) := lead_eq (by omega) (by omega) (fun i a b => decide_eq_true (h2 i a b)) (by first | (left; omega) | (right; exact fun q => c30 (of_decide_eq_true q)))
            have e2 : ltE n f nx = nx + (k : Int) := by unfold ltE; rw [e1]
            exact ⟨by omega, by rw [e2]; exact ⟨hO, hNu⟩, hF, h3⟩
        · skip
          replace c30 := zb1 c30
          refine g_aload_n (pc := 33) (pl := 0) X dX3_readLetters_33 rfl ?_
          refine g_dup (pc := 34) X dX3_readLetters_34 rfl ?_
          refine g_getf (pc := 35) X zF_X3_readLetters_20 hO rfl dX3_readLetters_35 ?_
          refine g_iconst (pc := 38) X dX3_readLetters_38 ?_
          refine g_iadd (pc := 39) X dX3_readLetters_39 ?_
          refine g_putf (pc := 40) X zW_X3_readLetters_20 hO (by omega) rfl rfl rfl dX3_readLetters_40 (fun H2 hOn hf2 => ?_)
          replace hNu := hNu.fr hf2 (by omega)
          replace hF := hF.fr hf2 (by omega)
          replace hO : Ob D w 3 [.int (J ((nx + (k : Int)) + 1)), .int (J kd), .int (J nx), .ref (w + 1)] H2 := hOn
          clear hOn
          refine g_goto (pc := 43) X 8 dX3_readLetters_43 (by decide) ?_
          refine G.pick [0, 1] (lv' := [(0, _), (1, _)]) rfl ?_
          exact ih8 (k + 1) _ H2 (by omega) (by omega) (by omega) (fun i h0 h1 => by rcases Int.lt_or_le i (k : Int) with c | c; exact h2 i h0 c; rw [show i = (k : Int) by omega]; exact c30) hO hNu hF (Fr.trans (h3.wide (by omega) (by omega)) (hf2.wide (by omega) (by omega)))
  refine G.pick [0, 1] (lv' := [(0, _), (1, _)]) rfl ?_
  exact hL8 _ 0 _ H1 (Nat.lt_succ_self _) (by omega) (by omega) (fun i h0 h1 => by omega) hO hNu hF (hf1.wide (by omega) (by omega))

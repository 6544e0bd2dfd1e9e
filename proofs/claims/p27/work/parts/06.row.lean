abbrev rm_X6_has : Room := { frames := 0, cells := 0, slots := 0, locals := 0 }
theorem zF_X6_has_15 : zF RX6 wsX6_has 6 1 15 := ⟨RX6, TX6, 2, rfl, by decide +kernel, by decide, by decide +kernel⟩
theorem zF_X6_has_9 : zF RX6 wsX6_has 6 0 9 := ⟨RX6, TX6, 2, rfl, by decide +kernel, by decide, by decide +kernel⟩
set_option maxRecDepth 100000 in
/-- whether there is such a place -/
theorem c_X6_has (l : Launch) (D : zD) (base : Nat) (r N : Nat) (n : Int) (f : Int → Int) (i : Int) (hi : rg i) : Ct l yX6_has wsX6_has rm_X6_has D base [.ref r, .int (J i)] (fun H => RowAt D r N n f H) (PI (fun H v H1 => H = H1 ∧ (if 0 ≤ i ∧ i < n then 1 else 0) = v)) := by
  refine Ct.of (own := RX6) (cc := cX6_has) (maxL := 2) (by decide +kernel) rfl (Nat.le_of_ble_eq_true rfl) rfl ?_
  intro K H X R hH hnm hP
  show G K 0 0 H 0 [(0, .ref r), (1, .int (J i))] []
  have hR := hP
  obtain ⟨hO, ⟨g, hA, hg⟩, hn0, hnN, hN⟩ := hP
  refine g_iload_n (pc := 0) (pl := 1) X dX6_has_0 rfl ?_
  refine g_if_lt (pc := 1) X 25 dX6_has_1 (by decide) (by omega) (fun c1 => ?_) (fun c1 => ?_)
  · skip
    refine g_iconst (pc := 25) X dX6_has_25 ?_
    refine g_zret (pc := 26) X R hH (by first | exact Or.inl rfl | exact Or.inr rfl | omega) dX6_has_26 ?_
    refine ⟨rfl, ?_⟩
    split <;> first | rfl | (exfalso; omega)
  · skip
    refine g_iload_n (pc := 4) (pl := 1) X dX6_has_4 rfl ?_
    refine g_aload_n (pc := 5) (pl := 0) X dX6_has_5 rfl ?_
    refine g_getf (pc := 6) X zF_X6_has_15 hO rfl dX6_has_6 ?_
    refine g_icmp_ge (pc := 9) X 25 dX6_has_9 (by decide) (by omega) (by omega) (fun c9 => ?_) (fun c9 => ?_)
    · skip
      refine g_iconst (pc := 25) X dX6_has_25 ?_
      refine g_zret (pc := 26) X R hH (by first | exact Or.inl rfl | exact Or.inr rfl | omega) dX6_has_26 ?_
      refine ⟨rfl, ?_⟩
      split <;> first | rfl | (exfalso; omega)
    · skip
      refine g_iload_n (pc := 12) (pl := 1) X dX6_has_12 rfl ?_
      refine g_aload_n (pc := 13) (pl := 0) X dX6_has_13 rfl ?_
      refine g_getf (pc := 14) X zF_X6_has_9 hO rfl dX6_has_14 ?_
      refine g_alen (pc := 17) X hA dX6_has_17 ?_
      refine g_icmp_ge (pc := 18) X 25 dX6_has_18 (by decide) (by omega) (by omega) (fun c18 => ?_) (fun c18 => ?_)
      · skip
        refine g_iconst (pc := 25) X dX6_has_25 ?_
        refine g_zret (pc := 26) X R hH (by first | exact Or.inl rfl | exact Or.inr rfl | omega) dX6_has_26 ?_
        refine ⟨rfl, ?_⟩
        split <;> first | rfl | (exfalso; omega)
      · skip
        refine g_iconst (pc := 21) X dX6_has_21 ?_
        refine g_goto (pc := 22) X 26 dX6_has_22 (by decide) ?_
        refine g_zret (pc := 26) X R hH (by first | exact Or.inl rfl | exact Or.inr rfl | omega) dX6_has_26 ?_
        refine ⟨rfl, ?_⟩
        split <;> first | rfl | (exfalso; omega)

abbrev rm_X6_item : Room := { frames := 0, cells := 0, slots := 0, locals := 0 }
theorem zF_X6_item_15 : zF RX6 wsX6_item 6 1 15 := ⟨RX6, TX6, 2, rfl, by decide +kernel, by decide, by decide +kernel⟩
theorem zF_X6_item_9 : zF RX6 wsX6_item 6 0 9 := ⟨RX6, TX6, 2, rfl, by decide +kernel, by decide, by decide +kernel⟩
set_option maxRecDepth 100000 in
/-- what is there, or -1 -/
theorem c_X6_item (l : Launch) (D : zD) (base : Nat) (r N : Nat) (n : Int) (f : Int → Int) (i : Int) (hi : rg i) : Ct l yX6_item wsX6_item rm_X6_item D base [.ref r, .int (J i)] (fun H => RowAt D r N n f H) (PI (fun H v H1 => H = H1 ∧ itm n f i = v)) := by
  refine Ct.of (own := RX6) (cc := cX6_item) (maxL := 2) (by decide +kernel) rfl (Nat.le_of_ble_eq_true rfl) rfl ?_
  intro K H X R hH hnm hP
  show G K 0 0 H 0 [(0, .ref r), (1, .int (J i))] []
  have hR := hP
  obtain ⟨hO, ⟨g, hA, hg⟩, hn0, hnN, hN⟩ := hP
  refine g_iload_n (pc := 0) (pl := 1) X dX6_item_0 rfl ?_
  refine g_if_lt (pc := 1) X 30 dX6_item_1 (by decide) (by omega) (fun c1 => ?_) (fun c1 => ?_)
  · skip
    refine g_iconst (pc := 30) X dX6_item_30 ?_
    refine g_iret (pc := 31) X R hH dX6_item_31 ?_
    refine ⟨rfl, ?_⟩
    unfold itm
    split <;> first | rfl | (exfalso; omega) | (exact (hg _ (by omega) (by omega)).symm)
  · skip
    refine g_iload_n (pc := 4) (pl := 1) X dX6_item_4 rfl ?_
    refine g_aload_n (pc := 5) (pl := 0) X dX6_item_5 rfl ?_
    refine g_getf (pc := 6) X zF_X6_item_15 hO rfl dX6_item_6 ?_
    refine g_icmp_ge (pc := 9) X 30 dX6_item_9 (by decide) (by omega) (by omega) (fun c9 => ?_) (fun c9 => ?_)
    · skip
      refine g_iconst (pc := 30) X dX6_item_30 ?_
      refine g_iret (pc := 31) X R hH dX6_item_31 ?_
      refine ⟨rfl, ?_⟩
      unfold itm
      split <;> first | rfl | (exfalso; omega) | (exact (hg _ (by omega) (by omega)).symm)
    · skip
      refine g_iload_n (pc := 12) (pl := 1) X dX6_item_12 rfl ?_
      refine g_aload_n (pc := 13) (pl := 0) X dX6_item_13 rfl ?_
      refine g_getf (pc := 14) X zF_X6_item_9 hO rfl dX6_item_14 ?_
      refine g_alen (pc := 17) X hA dX6_item_17 ?_
      refine g_icmp_ge (pc := 18) X 30 dX6_item_18 (by decide) (by omega) (by omega) (fun c18 => ?_) (fun c18 => ?_)
      · skip
        refine g_iconst (pc := 30) X dX6_item_30 ?_
        refine g_iret (pc := 31) X R hH dX6_item_31 ?_
        refine ⟨rfl, ?_⟩
        unfold itm
        split <;> first | rfl | (exfalso; omega) | (exact (hg _ (by omega) (by omega)).symm)
      · skip
        refine g_aload_n (pc := 21) (pl := 0) X dX6_item_21 rfl ?_
        refine g_getf (pc := 22) X zF_X6_item_9 hO rfl dX6_item_22 ?_
        refine g_iload_n (pc := 25) (pl := 1) X dX6_item_25 rfl ?_
        refine g_iaload (pc := 26) X hA (by omega) (by omega) (by omega) dX6_item_26 ?_
        refine g_goto (pc := 27) X 31 dX6_item_27 (by decide) ?_
        refine g_iret (pc := 31) X R hH dX6_item_31 ?_
        refine ⟨rfl, ?_⟩
        unfold itm
        split <;> first | rfl | (exfalso; omega) | (exact (hg _ (by omega) (by omega)).symm)

abbrev rm_X6_replace : Room := { frames := 1, cells := 0, slots := 0, locals := 21 }
theorem cs_X6_replace_19 : zCV RX6 wsX6_replace 19 6 yX6_has wsX6_has cX6_has 2 (some .boolean) rm_X6_replace rm_X6_has 1 := ⟨_, _, gX6_replace_X6_has, rfl, ⟨by decide +kernel, by decide +kernel, by decide +kernel⟩, ⟨Nat.le_of_ble_eq_true rfl, Nat.le_of_ble_eq_true rfl⟩, rfl, rfl⟩
theorem zF_X6_replace_9 : zF RX6 wsX6_replace 6 0 9 := ⟨RX6, TX6, 2, rfl, by decide +kernel, by decide, by decide +kernel⟩
set_option maxRecDepth 100000 in
theorem c_X6_replace (l : Launch) (D : zD) (base : Nat) (r N : Nat) (n : Int) (f : Int → Int) (i v : Int) (hq : base ≤ r) (hi : rg i) : Ct l yX6_replace wsX6_replace rm_X6_replace D base [.ref r, .int (J i), .int (J v)] (fun H => RowAt D r N n f H) (PV (fun H H1 => RowAt D r N n (up f i v) H1 ∧ Fr (Iv r (r + 2)) 0 H H1)) := by
  refine Ct.of (own := RX6) (cc := cX6_replace) (maxL := 3) (by decide +kernel) rfl (Nat.le_of_ble_eq_true rfl) rfl ?_
  intro K H X R hH hnm hP
  show G K 0 0 H 0 [(0, .ref r), (1, .int (J i)), (2, .int (J v))] []
  have hR := hP
  obtain ⟨hO, ⟨g, hA, hg⟩, hn0, hnN, hN⟩ := hP
  refine g_aload_n (pc := 0) (pl := 0) X dX6_replace_0 rfl ?_
  refine g_iload_n (pc := 1) (pl := 1) X dX6_replace_1 rfl ?_
  refine gVi (pc := 2) (n2 := 0) (k2 := 0) X cs_X6_replace_19 (c_X6_has (zl K) D base r N n f i (by omega)) rfl hO (by omega) hR rfl ⟨Nat.le_of_ble_eq_true rfl, Nat.le_of_ble_eq_true rfl⟩ dX6_replace_2 (Nat.le_of_ble_eq_true rfl) rfl rfl (fun v2 H1 hp2 hs2 => ?_)
  obtain ⟨rfl, rfl⟩ := hp2
  refine g_if_eq (pc := 5) X 15 dX6_replace_5 (by decide) (zbr _) (fun c5 => ?_) (fun c5 => ?_)
  · skip
    replace c5 := zb0 c5
    refine g_vret (pc := 15) X R hH dX6_replace_15 ?_
    refine ⟨⟨hO, ⟨_, hA, fun j h0 h1 => ?_⟩, ⟨hn0, hnN, hN⟩⟩, (Fr.refl _ _)⟩
    simp only [up]
    (repeat' split) <;> first | rfl | (exfalso; omega) | (congr 1 <;> omega) | (rw [hg _ (by omega) (by omega)] <;> first | rfl | (congr 1 <;> omega))
  · skip
    replace c5 := zb1 c5
    refine g_aload_n (pc := 8) (pl := 0) X dX6_replace_8 rfl ?_
    refine g_getf (pc := 9) X zF_X6_replace_9 hO rfl dX6_replace_9 ?_
    refine g_iload_n (pc := 12) (pl := 1) X dX6_replace_12 rfl ?_
    refine g_iload_n (pc := 13) (pl := 2) X dX6_replace_13 rfl ?_
    refine g_iastore (pc := 14) X hA (by omega) (by omega) (by omega) (by omega) dX6_replace_14 (fun H1 hAn hf1 => ?_)
    replace hO := hO.fr hf1 (by omega)
    replace hA := hAn
    clear hAn
    refine g_vret (pc := 15) X R hH dX6_replace_15 ?_
    refine ⟨⟨hO, ⟨_, hA, fun j h0 h1 => ?_⟩, ⟨hn0, hnN, hN⟩⟩, (hf1.wide (by omega) (by omega))⟩
    simp only [up]
    (repeat' split) <;> first | rfl | (exfalso; omega) | (congr 1 <;> omega) | (rw [hg _ (by omega) (by omega)] <;> first | rfl | (congr 1 <;> omega))

abbrev rm_X6_insert : Room := { frames := 1, cells := 0, slots := 0, locals := 60 }
theorem zF_X6_insert_15 : zF RX6 wsX6_insert 6 1 15 := ⟨RX6, TX6, 2, rfl, by decide +kernel, by decide, by decide +kernel⟩
theorem zF_X6_insert_9 : zF RX6 wsX6_insert 6 0 9 := ⟨RX6, TX6, 2, rfl, by decide +kernel, by decide, by decide +kernel⟩
theorem zW_X6_insert_15 : zW RX6 wsX6_insert 6 1 15 false (tyX6 1) := ⟨RX6, TX6, 2, tyX6, rfl, by decide +kernel, by decide, by decide +kernel, tyX6_ok, nmX6, rfl, rfl, rfl⟩
set_option maxRecDepth 100000 in
theorem c_X6_insert (l : Launch) (D : zD) (base : Nat) (r N : Nat) (n : Int) (f : Int → Int) (i v : Int) (hq : base ≤ r) (hi : 0 ≤ i ∧ i ≤ n ∧ n < N) : Ct l yX6_insert wsX6_insert rm_X6_insert D base [.ref r, .int (J i), .int (J v)] (fun H => RowAt D r N n f H) (PV (fun H H1 => RowAt D r N (n + 1) (ins f i v) H1 ∧ Fr (Iv r (r + 2)) 0 H H1)) := by
  refine Ct.of (own := RX6) (cc := cX6_insert) (maxL := 3) (by decide +kernel) rfl (Nat.le_of_ble_eq_true rfl) rfl ?_
  intro K H X R hH hnm hP
  show G K 0 0 H 0 [(0, .ref r), (1, .int (J i)), (2, .int (J v))] []
  have hR := hP
  obtain ⟨hO, ⟨g, hA, hg⟩, hn0, hnN, hN⟩ := hP
  refine g_iload_n (pc := 0) (pl := 1) X dX6_insert_0 rfl ?_
  refine g_if_lt (pc := 1) X 24 dX6_insert_1 (by decide) (by omega) (fun c1 => ?_) (fun c1 => ?_)
  · skip
    omega
  · skip
    refine g_iload_n (pc := 4) (pl := 1) X dX6_insert_4 rfl ?_
    refine g_aload_n (pc := 5) (pl := 0) X dX6_insert_5 rfl ?_
    refine g_getf (pc := 6) X zF_X6_insert_15 hO rfl dX6_insert_6 ?_
    refine g_icmp_gt (pc := 9) X 24 dX6_insert_9 (by decide) (by omega) (by omega) (fun c9 => ?_) (fun c9 => ?_)
    · skip
      omega
    · skip
      refine g_aload_n (pc := 12) (pl := 0) X dX6_insert_12 rfl ?_
      refine g_getf (pc := 13) X zF_X6_insert_15 hO rfl dX6_insert_13 ?_
      refine g_aload_n (pc := 16) (pl := 0) X dX6_insert_16 rfl ?_
      refine g_getf (pc := 17) X zF_X6_insert_9 hO rfl dX6_insert_17 ?_
      refine g_alen (pc := 20) X hA dX6_insert_20 ?_
      refine g_icmp_lt (pc := 21) X 25 dX6_insert_21 (by decide) (by omega) (by omega) (fun c21 => ?_) (fun c21 => ?_)
      · skip
        refine g_aload_n (pc := 25) (pl := 0) X dX6_insert_25 rfl ?_
        refine g_getf (pc := 26) X zF_X6_insert_9 hO rfl dX6_insert_26 ?_
        refine g_iload_n (pc := 29) (pl := 1) X dX6_insert_29 rfl ?_
        refine g_aload_n (pc := 30) (pl := 0) X dX6_insert_30 rfl ?_
        refine g_getf (pc := 31) X zF_X6_insert_9 hO rfl dX6_insert_31 ?_
        refine g_iload_n (pc := 34) (pl := 1) X dX6_insert_34 rfl ?_
        refine g_iconst (pc := 35) X dX6_insert_35 ?_
        refine g_iadd (pc := 36) X dX6_insert_36 ?_
        refine g_aload_n (pc := 37) (pl := 0) X dX6_insert_37 rfl ?_
        refine g_getf (pc := 38) X zF_X6_insert_15 hO rfl dX6_insert_38 ?_
        refine g_iload_n (pc := 41) (pl := 1) X dX6_insert_41 rfl ?_
        refine g_isub (pc := 42) X dX6_insert_42 ?_
        refine g_copy (pc := 43) X hA hA (by omega) (by omega) (by omega) (by omega) (by omega) (by omega) (by omega) (by decide +kernel) (by decide +kernel) (by decide +kernel) (by decide +kernel) (by decide) (Nat.le_of_ble_eq_true rfl) dX6_insert_43 (fun H1 hAn hf1 => ?_)
        replace hO := hO.fr hf1 (by omega)
        replace hA := hAn
        clear hAn
        refine g_aload_n (pc := 46) (pl := 0) X dX6_insert_46 rfl ?_
        refine g_getf (pc := 47) X zF_X6_insert_9 hO rfl dX6_insert_47 ?_
        refine g_iload_n (pc := 50) (pl := 1) X dX6_insert_50 rfl ?_
        refine g_iload_n (pc := 51) (pl := 2) X dX6_insert_51 rfl ?_
        refine g_iastore (pc := 52) X hA (by omega) (by omega) (by omega) (by omega) dX6_insert_52 (fun H2 hAn hf2 => ?_)
        replace hO := hO.fr hf2 (by omega)
        replace hA := hAn
        clear hAn
        refine g_aload_n (pc := 53) (pl := 0) X dX6_insert_53 rfl ?_
        refine g_dup (pc := 54) X dX6_insert_54 rfl ?_
        refine g_getf (pc := 55) X zF_X6_insert_15 hO rfl dX6_insert_55 ?_
        refine g_iconst (pc := 58) X dX6_insert_58 ?_
        refine g_iadd (pc := 59) X dX6_insert_59 ?_
        refine g_putf (pc := 60) X zW_X6_insert_15 hO (by omega) rfl rfl rfl dX6_insert_60 (fun H3 hOn hf3 => ?_)
        replace hA := hA.fr hf3 (by omega)
        replace hO : Ob D r 6 [.ref (r + 1), .int (J (n + 1))] H3 := hOn
        clear hOn
        refine g_vret (pc := 63) X R hH dX6_insert_63 ?_
        refine ⟨⟨hO, ⟨_, hA, fun j h0 h1 => ?_⟩, ⟨by omega, by omega, hN⟩⟩, (Fr.trans (hf1.wide (by omega) (by omega)) (Fr.trans (hf2.wide (by omega) (by omega)) (hf3.wide (by omega) (by omega))))⟩
        simp only [up, cpy, ins]
        (repeat' split) <;> first | rfl | (exfalso; omega) | (congr 1 <;> omega) | (rw [hg _ (by omega) (by omega)] <;> first | rfl | (congr 1 <;> omega))
      · skip
        omega

abbrev rm_X6_add : Room := { frames := 0, cells := 0, slots := 0, locals := 0 }
theorem zF_X6_add_15 : zF RX6 wsX6_add 6 1 15 := ⟨RX6, TX6, 2, rfl, by decide +kernel, by decide, by decide +kernel⟩
theorem zF_X6_add_9 : zF RX6 wsX6_add 6 0 9 := ⟨RX6, TX6, 2, rfl, by decide +kernel, by decide, by decide +kernel⟩
theorem zW_X6_add_15 : zW RX6 wsX6_add 6 1 15 false (tyX6 1) := ⟨RX6, TX6, 2, tyX6, rfl, by decide +kernel, by decide, by decide +kernel, tyX6_ok, nmX6, rfl, rfl, rfl⟩
set_option maxRecDepth 100000 in
theorem c_X6_add (l : Launch) (D : zD) (base : Nat) (r N : Nat) (n : Int) (f : Int → Int) (v : Int) (hq : base ≤ r) (hi : n < N) : Ct l yX6_add wsX6_add rm_X6_add D base [.ref r, .int (J v)] (fun H => RowAt D r N n f H) (PV (fun H H1 => RowAt D r N (n + 1) (up f n v) H1 ∧ Fr (Iv r (r + 2)) 0 H H1)) := by
  refine Ct.of (own := RX6) (cc := cX6_add) (maxL := 2) (by decide +kernel) rfl (Nat.le_of_ble_eq_true rfl) rfl ?_
  intro K H X R hH hnm hP
  show G K 0 0 H 0 [(0, .ref r), (1, .int (J v))] []
  have hR := hP
  obtain ⟨hO, ⟨g, hA, hg⟩, hn0, hnN, hN⟩ := hP
  refine g_aload_n (pc := 0) (pl := 0) X dX6_add_0 rfl ?_
  refine g_getf (pc := 1) X zF_X6_add_15 hO rfl dX6_add_1 ?_
  refine g_if_lt (pc := 4) X 39 dX6_add_4 (by decide) (by omega) (fun c4 => ?_) (fun c4 => ?_)
  · skip
    omega
  · skip
    refine g_aload_n (pc := 7) (pl := 0) X dX6_add_7 rfl ?_
    refine g_getf (pc := 8) X zF_X6_add_15 hO rfl dX6_add_8 ?_
    refine g_aload_n (pc := 11) (pl := 0) X dX6_add_11 rfl ?_
    refine g_getf (pc := 12) X zF_X6_add_9 hO rfl dX6_add_12 ?_
    refine g_alen (pc := 15) X hA dX6_add_15 ?_
    refine g_icmp_ge (pc := 16) X 39 dX6_add_16 (by decide) (by omega) (by omega) (fun c16 => ?_) (fun c16 => ?_)
    · skip
      omega
    · skip
      refine g_aload_n (pc := 19) (pl := 0) X dX6_add_19 rfl ?_
      refine g_getf (pc := 20) X zF_X6_add_9 hO rfl dX6_add_20 ?_
      refine g_aload_n (pc := 23) (pl := 0) X dX6_add_23 rfl ?_
      refine g_getf (pc := 24) X zF_X6_add_15 hO rfl dX6_add_24 ?_
      refine g_iload_n (pc := 27) (pl := 1) X dX6_add_27 rfl ?_
      refine g_iastore (pc := 28) X hA (by omega) (by omega) (by omega) (by omega) dX6_add_28 (fun H1 hAn hf1 => ?_)
      replace hO := hO.fr hf1 (by omega)
      replace hA := hAn
      clear hAn
      refine g_aload_n (pc := 29) (pl := 0) X dX6_add_29 rfl ?_
      refine g_dup (pc := 30) X dX6_add_30 rfl ?_
      refine g_getf (pc := 31) X zF_X6_add_15 hO rfl dX6_add_31 ?_
      refine g_iconst (pc := 34) X dX6_add_34 ?_
      refine g_iadd (pc := 35) X dX6_add_35 ?_
      refine g_putf (pc := 36) X zW_X6_add_15 hO (by omega) rfl rfl rfl dX6_add_36 (fun H2 hOn hf2 => ?_)
      replace hA := hA.fr hf2 (by omega)
      replace hO : Ob D r 6 [.ref (r + 1), .int (J (n + 1))] H2 := hOn
      clear hOn
      refine g_vret (pc := 39) X R hH dX6_add_39 ?_
      refine ⟨⟨hO, ⟨_, hA, fun j h0 h1 => ?_⟩, ⟨by omega, by omega, hN⟩⟩, (Fr.trans (hf1.wide (by omega) (by omega)) (hf2.wide (by omega) (by omega)))⟩
      simp only [up]
      (repeat' split) <;> first | rfl | (exfalso; omega) | (congr 1 <;> omega) | (rw [hg _ (by omega) (by omega)] <;> first | rfl | (congr 1 <;> omega))

abbrev rm_X6_clear : Room := { frames := 0, cells := 0, slots := 0, locals := 0 }
theorem zW_X6_clear_15 : zW RX6 wsX6_clear 6 1 15 false (tyX6 1) := ⟨RX6, TX6, 2, tyX6, rfl, by decide +kernel, by decide, by decide +kernel, tyX6_ok, nmX6, rfl, rfl, rfl⟩
set_option maxRecDepth 100000 in
theorem c_X6_clear (l : Launch) (D : zD) (base : Nat) (r N : Nat) (n : Int) (f : Int → Int) (hq : base ≤ r) : Ct l yX6_clear wsX6_clear rm_X6_clear D base [.ref r] (fun H => RowAt D r N n f H) (PV (fun H H1 => RowAt D r N 0 f H1 ∧ Fr (Iv r (r + 2)) 0 H H1)) := by
  refine Ct.of (own := RX6) (cc := cX6_clear) (maxL := 1) (by decide +kernel) rfl (Nat.le_of_ble_eq_true rfl) rfl ?_
  intro K H X R hH hnm hP
  show G K 0 0 H 0 [(0, .ref r)] []
  have hR := hP
  obtain ⟨hO, ⟨g, hA, hg⟩, hn0, hnN, hN⟩ := hP
  refine g_aload_n (pc := 0) (pl := 0) X dX6_clear_0 rfl ?_
  refine g_iconst (pc := 1) X dX6_clear_1 ?_
  refine g_putf (pc := 2) X zW_X6_clear_15 hO (by omega) rfl rfl rfl dX6_clear_2 (fun H1 hOn hf1 => ?_)
  replace hA := hA.fr hf1 (by omega)
  replace hO : Ob D r 6 [.ref (r + 1), .int (J 0)] H1 := hOn
  clear hOn
  refine g_vret (pc := 5) X R hH dX6_clear_5 ?_
  exact ⟨⟨hO, ⟨_, hA, fun j h0 h1 => by omega⟩, ⟨by omega, by omega, hN⟩⟩, (hf1.wide (by omega) (by omega))⟩

abbrev rm_X6_cut : Room := { frames := 1, cells := 0, slots := 0, locals := 60 }
theorem cs_X6_cut_19 : zCV RX6 wsX6_cut 19 6 yX6_has wsX6_has cX6_has 2 (some .boolean) rm_X6_cut rm_X6_has 1 := ⟨_, _, gX6_cut_X6_has, rfl, ⟨by decide +kernel, by decide +kernel, by decide +kernel⟩, ⟨Nat.le_of_ble_eq_true rfl, Nat.le_of_ble_eq_true rfl⟩, rfl, rfl⟩
theorem zF_X6_cut_9 : zF RX6 wsX6_cut 6 0 9 := ⟨RX6, TX6, 2, rfl, by decide +kernel, by decide, by decide +kernel⟩
theorem zF_X6_cut_15 : zF RX6 wsX6_cut 6 1 15 := ⟨RX6, TX6, 2, rfl, by decide +kernel, by decide, by decide +kernel⟩
theorem zW_X6_cut_15 : zW RX6 wsX6_cut 6 1 15 false (tyX6 1) := ⟨RX6, TX6, 2, tyX6, rfl, by decide +kernel, by decide, by decide +kernel, tyX6_ok, nmX6, rfl, rfl, rfl⟩
set_option maxRecDepth 100000 in
theorem c_X6_cut (l : Launch) (D : zD) (base : Nat) (r N : Nat) (n : Int) (f : Int → Int) (a b : Int) (hq : base ≤ r) (hi : 0 ≤ a ∧ a ≤ b ∧ b < n) : Ct l yX6_cut wsX6_cut rm_X6_cut D base [.ref r, .int (J a), .int (J b)] (fun H => RowAt D r N n f H) (PV (fun H H1 => RowAt D r N (n - (b - a + 1)) (del f a b) H1 ∧ Fr (Iv r (r + 2)) 0 H H1)) := by
  refine Ct.of (own := RX6) (cc := cX6_cut) (maxL := 3) (by decide +kernel) rfl (Nat.le_of_ble_eq_true rfl) rfl ?_
  intro K H X R hH hnm hP
  show G K 0 0 H 0 [(0, .ref r), (1, .int (J a)), (2, .int (J b))] []
  have hbd := hP.bd
  have hR := hP
  obtain ⟨hO, ⟨g, hA, hg⟩, hn0, hnN, hN⟩ := hP
  refine g_aload_n (pc := 0) (pl := 0) X dX6_cut_0 rfl ?_
  refine g_iload_n (pc := 1) (pl := 1) X dX6_cut_1 rfl ?_
  refine gVi (pc := 2) (n2 := 0) (k2 := 0) X cs_X6_cut_19 (c_X6_has (zl K) D base r N n f a (by omega)) rfl hO (by omega) hR rfl ⟨Nat.le_of_ble_eq_true rfl, Nat.le_of_ble_eq_true rfl⟩ dX6_cut_2 (Nat.le_of_ble_eq_true rfl) rfl rfl (fun v2 H1 hp2 hs2 => ?_)
  obtain ⟨rfl, rfl⟩ := hp2
  refine g_if_eq (pc := 5) X 21 dX6_cut_5 (by decide) (zbr _) (fun c5 => ?_) (fun c5 => ?_)
  · skip
    replace c5 := zb0 c5
    omega
  · skip
    replace c5 := zb1 c5
    refine g_aload_n (pc := 8) (pl := 0) X dX6_cut_8 rfl ?_
    refine g_iload_n (pc := 9) (pl := 2) X dX6_cut_9 rfl ?_
    refine gVi (pc := 10) (n2 := 0) (k2 := 0) X cs_X6_cut_19 (c_X6_has (zl K) D base r N n f b (by omega)) rfl hO (by omega) hR rfl ⟨Nat.le_of_ble_eq_true rfl, Nat.le_of_ble_eq_true rfl⟩ dX6_cut_10 (Nat.le_of_ble_eq_true rfl) rfl rfl (fun v10 H1 hp10 hs10 => ?_)
    obtain ⟨rfl, rfl⟩ := hp10
    refine g_if_eq (pc := 13) X 21 dX6_cut_13 (by decide) (zbr _) (fun c13 => ?_) (fun c13 => ?_)
    · skip
      replace c13 := zb0 c13
      omega
    · skip
      replace c13 := zb1 c13
      refine g_iload_n (pc := 16) (pl := 2) X dX6_cut_16 rfl ?_
      refine g_iload_n (pc := 17) (pl := 1) X dX6_cut_17 rfl ?_
      refine g_icmp_ge (pc := 18) X 22 dX6_cut_18 (by decide) (by omega) (by omega) (fun c18 => ?_) (fun c18 => ?_)
      · skip
        refine g_aload_n (pc := 22) (pl := 0) X dX6_cut_22 rfl ?_
        refine g_getf (pc := 23) X zF_X6_cut_9 hO rfl dX6_cut_23 ?_
        refine g_iload_n (pc := 26) (pl := 2) X dX6_cut_26 rfl ?_
        refine g_iconst (pc := 27) X dX6_cut_27 ?_
        refine g_iadd (pc := 28) X dX6_cut_28 ?_
        refine g_aload_n (pc := 29) (pl := 0) X dX6_cut_29 rfl ?_
        refine g_getf (pc := 30) X zF_X6_cut_9 hO rfl dX6_cut_30 ?_
        refine g_iload_n (pc := 33) (pl := 1) X dX6_cut_33 rfl ?_
        refine g_aload_n (pc := 34) (pl := 0) X dX6_cut_34 rfl ?_
        refine g_getf (pc := 35) X zF_X6_cut_15 hO rfl dX6_cut_35 ?_
        refine g_iload_n (pc := 38) (pl := 2) X dX6_cut_38 rfl ?_
        refine g_isub (pc := 39) X dX6_cut_39 ?_
        refine g_iconst (pc := 40) X dX6_cut_40 ?_
        refine g_isub (pc := 41) X dX6_cut_41 ?_
        refine g_copy (pc := 42) X hA hA (by omega) (by omega) (by omega) (by omega) (by omega) (by omega) (by omega) (by decide +kernel) (by decide +kernel) (by decide +kernel) (by decide +kernel) (by decide) (Nat.le_of_ble_eq_true rfl) dX6_cut_42 (fun H1 hAn hf1 => ?_)
        replace hO := hO.fr hf1 (by omega)
        replace hA := hAn
        clear hAn
        refine g_aload_n (pc := 45) (pl := 0) X dX6_cut_45 rfl ?_
        refine g_dup (pc := 46) X dX6_cut_46 rfl ?_
        refine g_getf (pc := 47) X zF_X6_cut_15 hO rfl dX6_cut_47 ?_
        refine g_iload_n (pc := 50) (pl := 2) X dX6_cut_50 rfl ?_
        refine g_iload_n (pc := 51) (pl := 1) X dX6_cut_51 rfl ?_
        refine g_isub (pc := 52) X dX6_cut_52 ?_
        refine g_iconst (pc := 53) X dX6_cut_53 ?_
        refine g_iadd (pc := 54) X dX6_cut_54 ?_
        refine g_isub (pc := 55) X dX6_cut_55 ?_
        refine g_putf (pc := 56) X zW_X6_cut_15 hO (by omega) rfl rfl rfl dX6_cut_56 (fun H2 hOn hf2 => ?_)
        replace hA := hA.fr hf2 (by omega)
        replace hO : Ob D r 6 [.ref (r + 1), .int (J (n - ((b - a) + 1)))] H2 := hOn
        clear hOn
        refine g_vret (pc := 59) X R hH dX6_cut_59 ?_
        refine ⟨⟨hO, ⟨_, hA, fun j h0 h1 => ?_⟩, ⟨by omega, by omega, hN⟩⟩, (Fr.trans (hf1.wide (by omega) (by omega)) (hf2.wide (by omega) (by omega)))⟩
        simp only [cpy, del]
        (repeat' split) <;> first | rfl | (exfalso; omega) | (congr 1 <;> omega) | (rw [hg _ (by omega) (by omega)] <;> first | rfl | (congr 1 <;> omega))
      · skip
        omega

abbrev rm_X6_turn : Room := { frames := 1, cells := 0, slots := 0, locals := 21 }
theorem cs_X6_turn_19 : zCV RX6 wsX6_turn 19 6 yX6_has wsX6_has cX6_has 2 (some .boolean) rm_X6_turn rm_X6_has 1 := ⟨_, _, gX6_turn_X6_has, rfl, ⟨by decide +kernel, by decide +kernel, by decide +kernel⟩, ⟨Nat.le_of_ble_eq_true rfl, Nat.le_of_ble_eq_true rfl⟩, rfl, rfl⟩
theorem zF_X6_turn_9 : zF RX6 wsX6_turn 6 0 9 := ⟨RX6, TX6, 2, rfl, by decide +kernel, by decide, by decide +kernel⟩
set_option maxRecDepth 100000 in
theorem c_X6_turn (l : Launch) (D : zD) (base : Nat) (r N : Nat) (n : Int) (f : Int → Int) (a b : Int) (hq : base ≤ r) (hi : 0 ≤ a ∧ b < n ∧ a ≤ b + 1) : Ct l yX6_turn wsX6_turn rm_X6_turn D base [.ref r, .int (J a), .int (J b)] (fun H => RowAt D r N n f H) (PV (fun H H1 => RowAt D r N n (rev f a b) H1 ∧ Fr (Iv r (r + 2)) 0 H H1)) := by
  refine Ct.of (own := RX6) (cc := cX6_turn) (maxL := 6) (by decide +kernel) rfl (Nat.le_of_ble_eq_true rfl) rfl ?_
  intro K H X R hH hnm hP
  show G K 0 0 H 0 [(0, .ref r), (1, .int (J a)), (2, .int (J b))] []
  have hbd := hP.bd
  refine g_iload_n (pc := 0) (pl := 1) X dX6_turn_0 rfl ?_
  refine g_istore_n (pc := 1) (lv' := [(3, _), (0, _), (1, _), (2, _)]) X dX6_turn_1 (by decide) rfl ?_
  refine g_iload_n (pc := 2) (pl := 3) X dX6_turn_2 rfl ?_
  refine g_istore (pc := 3) (lv' := [(4, _), (3, _), (0, _), (1, _), (2, _)]) X dX6_turn_3 (by decide) rfl ?_
  have hL5 : ∀ (fu : Nat) (lo hi : Int) (Hx : Heap), (hi + 1 - lo).toNat < fu → (lo + hi = a + b ∧ a ≤ lo ∧ lo ≤ hi + 1) → (RowAt D r N n (swp f a b lo hi) Hx) → (Fr (Iv r (r + 2)) 0 H Hx) → G K 0 0 Hx 5 [(0, .ref r), (3, .int (J lo)), (4, .int (J hi))] [] := by
    intro fu
    induction fu with
    | zero => intro lo hi Hx hm; exact absurd hm (Nat.not_lt_zero _)
    | succ fu ih5 =>
      intro lo hi Hx hm h1 h2 h3
      have hR := h2
      obtain ⟨hO, ⟨g, hA, hg⟩, hn0, hnN, hN⟩ := h2
      refine g_iload_n (pc := 5) (pl := 1) X dX6_turn_5 rfl ?_
      refine g_iload (pc := 6) (pl := 2) X dX6_turn_6 rfl ?_
      refine g_icmp_ge (pc := 8) X 67 dX6_turn_8 (by decide) (by omega) (by omega) (fun c8 => ?_) (fun c8 => ?_)
      · skip
        refine g_vret (pc := 67) X R hH dX6_turn_67 ?_
        exact ⟨swp_end (f := f) (a := a) (b := b) (lo := lo) (hi := hi) (by omega) (by omega) (by omega) (by omega) ▸ hR, h3⟩
      · skip
        refine g_aload_n (pc := 11) (pl := 0) X dX6_turn_11 rfl ?_
        refine g_iload_n (pc := 12) (pl := 1) X dX6_turn_12 rfl ?_
        refine gVi (pc := 13) (n2 := 0) (k2 := 0) X cs_X6_turn_19 (c_X6_has (zl K) D base r N n (swp f a b lo hi) lo (by omega)) rfl hO (by omega) hR rfl ⟨Nat.le_of_ble_eq_true rfl, Nat.le_of_ble_eq_true rfl⟩ dX6_turn_13 (Nat.le_of_ble_eq_true rfl) rfl rfl (fun v13 H1 hp13 hs13 => ?_)
        obtain ⟨rfl, rfl⟩ := hp13
        refine g_if_eq (pc := 16) X 67 dX6_turn_16 (by decide) (zbr _) (fun c16 => ?_) (fun c16 => ?_)
        · skip
          replace c16 := zb0 c16
          omega
        · skip
          replace c16 := zb1 c16
          refine g_aload_n (pc := 19) (pl := 0) X dX6_turn_19 rfl ?_
          refine g_iload (pc := 20) (pl := 2) X dX6_turn_20 rfl ?_
          refine gVi (pc := 22) (n2 := 0) (k2 := 0) X cs_X6_turn_19 (c_X6_has (zl K) D base r N n (swp f a b lo hi) hi (by omega)) rfl hO (by omega) hR rfl ⟨Nat.le_of_ble_eq_true rfl, Nat.le_of_ble_eq_true rfl⟩ dX6_turn_22 (Nat.le_of_ble_eq_true rfl) rfl rfl (fun v22 H1 hp22 hs22 => ?_)
          obtain ⟨rfl, rfl⟩ := hp22
          refine g_if_eq (pc := 25) X 67 dX6_turn_25 (by decide) (zbr _) (fun c25 => ?_) (fun c25 => ?_)
          · skip
            replace c25 := zb0 c25
            omega
          · skip
            replace c25 := zb1 c25
            refine g_aload_n (pc := 28) (pl := 0) X dX6_turn_28 rfl ?_
            refine g_getf (pc := 29) X zF_X6_turn_9 hO rfl dX6_turn_29 ?_
            refine g_iload_n (pc := 32) (pl := 1) X dX6_turn_32 rfl ?_
            refine g_iaload (pc := 33) X hA (by omega) (by omega) (by omega) dX6_turn_33 ?_
            refine g_istore (pc := 34) (lv' := [(5, _), (0, _), (3, _), (4, _)]) X dX6_turn_34 (by decide) rfl ?_
            refine g_aload_n (pc := 36) (pl := 1) X dX6_turn_36 rfl ?_
            refine g_getf (pc := 37) X zF_X6_turn_9 hO rfl dX6_turn_37 ?_
            refine g_iload_n (pc := 40) (pl := 2) X dX6_turn_40 rfl ?_
            refine g_aload_n (pc := 41) (pl := 1) X dX6_turn_41 rfl ?_
            refine g_getf (pc := 42) X zF_X6_turn_9 hO rfl dX6_turn_42 ?_
            refine g_iload (pc := 45) (pl := 3) X dX6_turn_45 rfl ?_
            refine g_iaload (pc := 47) X hA (by omega) (by omega) (by omega) dX6_turn_47 ?_
            refine g_iastore (pc := 48) X hA (by omega) (by omega) (by omega) (by omega) dX6_turn_48 (fun H1 hAn hf1 => ?_)
            replace hO := hO.fr hf1 (by omega)
            replace hA := hAn
            clear hAn
            refine g_aload_n (pc := 49) (pl := 1) X dX6_turn_49 rfl ?_
            refine g_getf (pc := 50) X zF_X6_turn_9 hO rfl dX6_turn_50 ?_
            refine g_iload (pc := 53) (pl := 3) X dX6_turn_53 rfl ?_
            refine g_iload (pc := 55) (pl := 0) X dX6_turn_55 rfl ?_
            refine g_iastore (pc := 57) X hA (by omega) (by omega) (by omega) (by omega) dX6_turn_57 (fun H2 hAn hf2 => ?_)
            replace hO := hO.fr hf2 (by omega)
            replace hA := hAn
            clear hAn
            refine g_iinc (pc := 58) (pl := 2) (x := lo) (lv' := [(3, _), (5, _), (0, _), (4, _)]) X dX6_turn_58 rfl (by decide) rfl ?_
            refine g_iinc (pc := 61) (pl := 3) (x := hi) (lv' := [(4, _), (3, _), (5, _), (0, _)]) X dX6_turn_61 rfl (by decide) rfl ?_
            refine g_goto (pc := 64) X 5 dX6_turn_64 (by decide) ?_
            refine G.pick [3, 1, 0] (lv' := [(0, _), (3, _), (4, _)]) rfl ?_
            exact ih5 (lo + 1) (hi + (-1)) H2 (by omega) (by omega) ⟨hO, ⟨_, hA, swp_step hg (by omega) (by omega) (by omega) (by omega) (by omega)⟩, hn0, hnN, hN⟩ (Fr.trans (h3.wide (by omega) (by omega)) (Fr.trans (hf1.wide (by omega) (by omega)) (hf2.wide (by omega) (by omega))))
  refine G.pick [2, 1, 0] (lv' := [(0, _), (3, _), (4, _)]) rfl ?_
  exact hL5 _ a b H (Nat.lt_succ_self _) (by omega) (by rw [swp_0]; exact hP) (Fr.refl _ _)

abbrev rm_X6_exchange : Room := { frames := 2, cells := 0, slots := 0, locals := 46 }
theorem cs_X6_exchange_33 : zCV RX6 wsX6_exchange 33 6 yX6_turn wsX6_turn cX6_turn 6 none rm_X6_exchange rm_X6_turn 2 := ⟨_, _, gX6_exchange_X6_turn, rfl, ⟨by decide +kernel, by decide +kernel, by decide +kernel⟩, ⟨Nat.le_of_ble_eq_true rfl, Nat.le_of_ble_eq_true rfl⟩, rfl, rfl⟩
set_option maxRecDepth 100000 in
theorem c_X6_exchange (l : Launch) (D : zD) (base : Nat) (r N : Nat) (n : Int) (f : Int → Int) (a m b : Int) (hq : base ≤ r) (hi : 0 ≤ a ∧ b < n ∧ a ≤ m ∧ m ≤ b + 1) : Ct l yX6_exchange wsX6_exchange rm_X6_exchange D base [.ref r, .int (J a), .int (J m), .int (J b)] (fun H => RowAt D r N n f H) (PV (fun H H1 => RowAt D r N n (exch f a m b) H1 ∧ Fr (Iv r (r + 2)) 0 H H1)) := by
  refine Ct.of (own := RX6) (cc := cX6_exchange) (maxL := 4) (by decide +kernel) rfl (Nat.le_of_ble_eq_true rfl) rfl ?_
  intro K H X R hH hnm hP
  show G K 0 0 H 0 [(0, .ref r), (1, .int (J a)), (2, .int (J m)), (3, .int (J b))] []
  have hbd := hP.bd
  obtain ⟨hO, -⟩ := id hP
  refine g_aload_n (pc := 0) (pl := 0) X dX6_exchange_0 rfl ?_
  refine g_iload_n (pc := 1) (pl := 1) X dX6_exchange_1 rfl ?_
  refine g_iload_n (pc := 2) (pl := 2) X dX6_exchange_2 rfl ?_
  refine g_iconst (pc := 3) X dX6_exchange_3 ?_
  refine g_isub (pc := 4) X dX6_exchange_4 ?_
  refine gVv (pc := 5) (n2 := 0) (k2 := 0) X cs_X6_exchange_33 (c_X6_turn (zl K) D base r N n f a (m - 1) hq (by omega)) rfl hO (by omega) hP rfl ⟨Nat.le_of_ble_eq_true rfl, Nat.le_of_ble_eq_true rfl⟩ dX6_exchange_5 (Nat.le_of_ble_eq_true rfl) rfl rfl (fun H1 hp5 hs5 => ?_)
  obtain ⟨hR1, hfa⟩ := hp5
  obtain ⟨hO, -⟩ := id hR1
  refine g_aload_n (pc := 8) (pl := 0) X dX6_exchange_8 rfl ?_
  refine g_iload_n (pc := 9) (pl := 2) X dX6_exchange_9 rfl ?_
  refine g_iload_n (pc := 10) (pl := 3) X dX6_exchange_10 rfl ?_
  refine gVv (pc := 11) (n2 := 0) (k2 := 0) X cs_X6_exchange_33 (c_X6_turn (zl K) D base r N n (rev f a (m - 1)) m b hq (by omega)) rfl hO (by omega) hR1 rfl ⟨Nat.le_of_ble_eq_true rfl, Nat.le_of_ble_eq_true rfl⟩ dX6_exchange_11 (Nat.le_of_ble_eq_true rfl) rfl rfl (fun H2 hp11 hs11 => ?_)
  obtain ⟨hR2, hfb⟩ := hp11
  obtain ⟨hO, -⟩ := id hR2
  refine g_aload_n (pc := 14) (pl := 0) X dX6_exchange_14 rfl ?_
  refine g_iload_n (pc := 15) (pl := 1) X dX6_exchange_15 rfl ?_
  refine g_iload_n (pc := 16) (pl := 3) X dX6_exchange_16 rfl ?_
  refine gVv (pc := 17) (n2 := 0) (k2 := 0) X cs_X6_exchange_33 (c_X6_turn (zl K) D base r N n (rev (rev f a (m - 1)) m b) a b hq (by omega)) rfl hO (by omega) hR2 rfl ⟨Nat.le_of_ble_eq_true rfl, Nat.le_of_ble_eq_true rfl⟩ dX6_exchange_17 (Nat.le_of_ble_eq_true rfl) rfl rfl (fun H3 hp17 hs17 => ?_)
  obtain ⟨hR3, hfc⟩ := hp17
  refine g_vret (pc := 20) X R hH dX6_exchange_20 ?_
  exact ⟨exch_rev f (a := a) (m := m) (b := b) (by omega) (by omega) ▸ hR3, Fr.trans0 hfa (Fr.trans0 hfb hfc)⟩

abbrev rm_X6_shift : Room := { frames := 3, cells := 0, slots := 0, locals := 69 }
theorem cs_X6_shift_29 : zCV RX6 wsX6_shift 29 6 yX6_exchange wsX6_exchange cX6_exchange 4 none rm_X6_shift rm_X6_exchange 3 := ⟨_, _, gX6_shift_X6_exchange, rfl, ⟨by decide +kernel, by decide +kernel, by decide +kernel⟩, ⟨Nat.le_of_ble_eq_true rfl, Nat.le_of_ble_eq_true rfl⟩, rfl, rfl⟩
set_option maxRecDepth 100000 in
theorem c_X6_shift (l : Launch) (D : zD) (base : Nat) (r N : Nat) (n : Int) (f : Int → Int) (a b p : Int) (hq : base ≤ r) (hi : 0 ≤ a ∧ a ≤ b ∧ b < n ∧ 0 ≤ p ∧ p + (b - a + 1) ≤ n) : Ct l yX6_shift wsX6_shift rm_X6_shift D base [.ref r, .int (J a), .int (J b), .int (J p)] (fun H => RowAt D r N n f H) (PV (fun H H1 => RowAt D r N n (mvf f a b p) H1 ∧ Fr (Iv r (r + 2)) 0 H H1)) := by
  refine Ct.of (own := RX6) (cc := cX6_shift) (maxL := 4) (by decide +kernel) rfl (Nat.le_of_ble_eq_true rfl) rfl ?_
  intro K H X R hH hnm hP
  show G K 0 0 H 0 [(0, .ref r), (1, .int (J a)), (2, .int (J b)), (3, .int (J p))] []
  have hbd := hP.bd
  obtain ⟨hO, -⟩ := id hP
  refine g_iload_n (pc := 0) (pl := 3) X dX6_shift_0 rfl ?_
  refine g_iload_n (pc := 1) (pl := 1) X dX6_shift_1 rfl ?_
  refine g_icmp_ge (pc := 2) X 15 dX6_shift_2 (by decide) (by omega) (by omega) (fun c2 => ?_) (fun c2 => ?_)
  · skip
    refine g_aload_n (pc := 15) (pl := 0) X dX6_shift_15 rfl ?_
    refine g_iload_n (pc := 16) (pl := 1) X dX6_shift_16 rfl ?_
    refine g_iload_n (pc := 17) (pl := 2) X dX6_shift_17 rfl ?_
    refine g_iconst (pc := 18) X dX6_shift_18 ?_
    refine g_iadd (pc := 19) X dX6_shift_19 ?_
    refine g_iload_n (pc := 20) (pl := 3) X dX6_shift_20 rfl ?_
    refine g_iload_n (pc := 21) (pl := 2) X dX6_shift_21 rfl ?_
    refine g_iadd (pc := 22) X dX6_shift_22 ?_
    refine g_iload_n (pc := 23) (pl := 1) X dX6_shift_23 rfl ?_
    refine g_isub (pc := 24) X dX6_shift_24 ?_
    refine gVv (pc := 25) (n2 := 0) (k2 := 0) X cs_X6_shift_29 (c_X6_exchange (zl K) D base r N n f a (b + 1) (p + b - a) hq (by omega)) rfl hO (by omega) hP rfl ⟨Nat.le_of_ble_eq_true rfl, Nat.le_of_ble_eq_true rfl⟩ dX6_shift_25 (Nat.le_of_ble_eq_true rfl) rfl rfl (fun H1 hp25 hs25 => ?_)
    obtain ⟨hR1, hfa⟩ := hp25
    rw [mvf_hi f (by omega) (by omega)] at hR1
    refine g_vret (pc := 28) X R hH dX6_shift_28 ?_
    exact ⟨hR1, hfa⟩
  · skip
    refine g_aload_n (pc := 5) (pl := 0) X dX6_shift_5 rfl ?_
    refine g_iload_n (pc := 6) (pl := 3) X dX6_shift_6 rfl ?_
    refine g_iload_n (pc := 7) (pl := 1) X dX6_shift_7 rfl ?_
    refine g_iload_n (pc := 8) (pl := 2) X dX6_shift_8 rfl ?_
    refine gVv (pc := 9) (n2 := 0) (k2 := 0) X cs_X6_shift_29 (c_X6_exchange (zl K) D base r N n f p a b hq (by omega)) rfl hO (by omega) hP rfl ⟨Nat.le_of_ble_eq_true rfl, Nat.le_of_ble_eq_true rfl⟩ dX6_shift_9 (Nat.le_of_ble_eq_true rfl) rfl rfl (fun H1 hp9 hs9 => ?_)
    obtain ⟨hR1, hfa⟩ := hp9
    rw [mvf_lo f (by omega) (by omega)] at hR1
    refine g_goto (pc := 12) X 28 dX6_shift_12 (by decide) ?_
    refine g_vret (pc := 28) X R hH dX6_shift_28 ?_
    exact ⟨hR1, hfa⟩

abbrev rm_X6_copyFrom : Room := { frames := 1, cells := 0, slots := 0, locals := 60 }
theorem zF_X6_copyFrom_15 : zF RX6 wsX6_copyFrom 6 1 15 := ⟨RX6, TX6, 2, rfl, by decide +kernel, by decide, by decide +kernel⟩
theorem zF_X6_copyFrom_9 : zF RX6 wsX6_copyFrom 6 0 9 := ⟨RX6, TX6, 2, rfl, by decide +kernel, by decide, by decide +kernel⟩
theorem zW_X6_copyFrom_15 : zW RX6 wsX6_copyFrom 6 1 15 false (tyX6 1) := ⟨RX6, TX6, 2, tyX6, rfl, by decide +kernel, by decide, by decide +kernel, tyX6_ok, nmX6, rfl, rfl, rfl⟩
set_option maxRecDepth 100000 in
theorem c_X6_copyFrom (l : Launch) (D : zD) (base : Nat) (r N o N2 : Nat) (n n2 : Int) (f f2 : Int → Int) (hq : base ≤ r) (hi : n2 ≤ N) (ho : r + 2 ≤ o ∨ o + 2 ≤ r) : Ct l yX6_copyFrom wsX6_copyFrom rm_X6_copyFrom D base [.ref r, .ref o] (fun H => RowAt D r N n f H ∧ RowAt D o N2 n2 f2 H) (PV (fun H H1 => RowAt D r N n2 f2 H1 ∧ Fr (Iv r (r + 2)) 0 H H1)) := by
  refine Ct.of (own := RX6) (cc := cX6_copyFrom) (maxL := 2) (by decide +kernel) rfl (Nat.le_of_ble_eq_true rfl) rfl ?_
  intro K H X R hH hnm hP
  show G K 0 0 H 0 [(0, .ref r), (1, .ref o)] []
  obtain ⟨⟨hO, ⟨g, hA, hg⟩, hn0, hnN, hN⟩, ⟨hO2, ⟨g2, hA2, hg2⟩, hm0, hmN, hM⟩⟩ := hP
  refine g_aload_n (pc := 0) (pl := 0) X dX6_copyFrom_0 rfl ?_
  refine g_aload_n (pc := 1) (pl := 1) X dX6_copyFrom_1 rfl ?_
  refine g_getf (pc := 2) X zF_X6_copyFrom_15 hO2 rfl dX6_copyFrom_2 ?_
  refine g_aload_n (pc := 5) (pl := 0) X dX6_copyFrom_5 rfl ?_
  refine g_getf (pc := 6) X zF_X6_copyFrom_9 hO rfl dX6_copyFrom_6 ?_
  refine g_alen (pc := 9) X hA dX6_copyFrom_9 ?_
  refine g_mmin (pc := 10) X (by omega) (by omega) (by decide +kernel) (by decide +kernel) (by decide +kernel) (by decide +kernel) (by decide) (Nat.le_of_ble_eq_true rfl) (by decide) dX6_copyFrom_10 ?_
  rw [show (if (N : Int) < n2 then (N : Int) else n2) = n2 from if_neg (by omega)]
  refine g_putf (pc := 13) X zW_X6_copyFrom_15 hO (by omega) rfl rfl rfl dX6_copyFrom_13 (fun H1 hOn hf1 => ?_)
  replace hO2 := hO2.fr hf1 (by omega)
  replace hA := hA.fr hf1 (by omega)
  replace hA2 := hA2.fr hf1 (by omega)
  replace hO : Ob D r 6 [.ref (r + 1), .int (J n2)] H1 := hOn
  clear hOn
  refine g_aload_n (pc := 16) (pl := 1) X dX6_copyFrom_16 rfl ?_
  refine g_getf (pc := 17) X zF_X6_copyFrom_9 hO2 rfl dX6_copyFrom_17 ?_
  refine g_iconst (pc := 20) X dX6_copyFrom_20 ?_
  refine g_aload_n (pc := 21) (pl := 0) X dX6_copyFrom_21 rfl ?_
  refine g_getf (pc := 22) X zF_X6_copyFrom_9 hO rfl dX6_copyFrom_22 ?_
  refine g_iconst (pc := 25) X dX6_copyFrom_25 ?_
  refine g_aload_n (pc := 26) (pl := 0) X dX6_copyFrom_26 rfl ?_
  refine g_getf (pc := 27) X zF_X6_copyFrom_15 hO rfl dX6_copyFrom_27 ?_
  refine g_copy (pc := 30) X hA2 hA (by omega) (by omega) (by omega) (by omega) (by omega) (by omega) (by omega) (by decide +kernel) (by decide +kernel) (by decide +kernel) (by decide +kernel) (by decide) (Nat.le_of_ble_eq_true rfl) dX6_copyFrom_30 (fun H2 hAn hf2 => ?_)
  replace hO := hO.fr hf2 (by omega)
  replace hO2 := hO2.fr hf2 (by omega)
  replace hA2 := hA2.fr hf2 (by omega)
  replace hA := hAn
  clear hAn
  refine g_vret (pc := 33) X R hH dX6_copyFrom_33 ?_
  refine ⟨⟨hO, ⟨_, hA, fun j h0 h1 => ?_⟩, ⟨by omega, by omega, hN⟩⟩, (Fr.trans (hf1.wide (by omega) (by omega)) (hf2.wide (by omega) (by omega)))⟩
  simp only [cpy]
  rw [if_pos (by omega), ← hg2 _ h0 h1] <;> congr 1 <;> omega

abbrev rm_X6_copyPart : Room := { frames := 1, cells := 0, slots := 0, locals := 21 }
theorem cs_X6_copyPart_43 : zCV RX6 wsX6_copyPart 43 6 yX6_clear wsX6_clear cX6_clear 1 none rm_X6_copyPart rm_X6_clear 0 := ⟨_, _, gX6_copyPart_X6_clear, rfl, ⟨by decide +kernel, by decide +kernel, by decide +kernel⟩, ⟨Nat.le_of_ble_eq_true rfl, Nat.le_of_ble_eq_true rfl⟩, rfl, rfl⟩
theorem cs_X6_copyPart_19 : zCV RX6 wsX6_copyPart 19 6 yX6_has wsX6_has cX6_has 2 (some .boolean) rm_X6_copyPart rm_X6_has 1 := ⟨_, _, gX6_copyPart_X6_has, rfl, ⟨by decide +kernel, by decide +kernel, by decide +kernel⟩, ⟨Nat.le_of_ble_eq_true rfl, Nat.le_of_ble_eq_true rfl⟩, rfl, rfl⟩
theorem cs_X6_copyPart_46 : zCV RX6 wsX6_copyPart 46 6 yX6_item wsX6_item cX6_item 2 (some .int) rm_X6_copyPart rm_X6_item 1 := ⟨_, _, gX6_copyPart_X6_item, rfl, ⟨by decide +kernel, by decide +kernel, by decide +kernel⟩, ⟨Nat.le_of_ble_eq_true rfl, Nat.le_of_ble_eq_true rfl⟩, rfl, rfl⟩
theorem cs_X6_copyPart_50 : zCV RX6 wsX6_copyPart 50 6 yX6_add wsX6_add cX6_add 2 none rm_X6_copyPart rm_X6_add 1 := ⟨_, _, gX6_copyPart_X6_add, rfl, ⟨by decide +kernel, by decide +kernel, by decide +kernel⟩, ⟨Nat.le_of_ble_eq_true rfl, Nat.le_of_ble_eq_true rfl⟩, rfl, rfl⟩
set_option maxRecDepth 100000 in
theorem c_X6_copyPart (l : Launch) (D : zD) (base : Nat) (r N o N2 : Nat) (n n2 : Int) (f f2 : Int → Int) (a e w : Int) (hq : base ≤ r) (ho : r + 2 ≤ o ∨ o + 2 ≤ r) (hq2 : base ≤ o) (he : e = 1 ∨ e = -1) (hw : 0 ≤ w ∧ w ≤ N) (ha : -1 ≤ a ∧ a ≤ 1000) : Ct l yX6_copyPart wsX6_copyPart rm_X6_copyPart D base [.ref r, .ref o, .int (J a), .int (J e), .int (J w)] (fun H => RowAt D r N n f H ∧ RowAt D o N2 n2 f2 H) (PV (fun H H1 => ∃ c : Int, 0 ≤ c ∧ c ≤ w ∧ (∀ i : Int, 0 ≤ i → i < c → 0 ≤ a + i * e ∧ a + i * e < n2) ∧ (c = w ∨ ¬ (0 ≤ a + c * e ∧ a + c * e < n2)) ∧ RowAt D r N c (fun j => f2 (a + j * e)) H1 ∧ Fr (Iv r (r + 2)) 0 H H1)) := by
  refine Ct.of (own := RX6) (cc := cX6_copyPart) (maxL := 6) (by decide +kernel) rfl (Nat.le_of_ble_eq_true rfl) rfl ?_
  intro K H X R hH hnm hP
  show G K 0 0 H 0 [(0, .ref r), (1, .ref o), (2, .int (J a)), (3, .int (J e)), (4, .int (J w))] []
  obtain ⟨hR, hR2⟩ := hP
  have hbd := hR.bd
  have hbd2 := hR2.bd
  obtain ⟨hO, -⟩ := id hR
  refine g_aload_n (pc := 0) (pl := 0) X dX6_copyPart_0 rfl ?_
  refine gVv (pc := 1) (n2 := 0) (k2 := 0) X cs_X6_copyPart_43 (c_X6_clear (zl K) D base r N n f hq) rfl hO (by omega) hR rfl ⟨Nat.le_of_ble_eq_true rfl, Nat.le_of_ble_eq_true rfl⟩ dX6_copyPart_1 (Nat.le_of_ble_eq_true rfl) rfl rfl (fun H1 hp1 hs1 => ?_)
  obtain ⟨hR1, hfa⟩ := hp1
  replace hR2 := hR2.fr hfa (by omega)
  refine g_iconst (pc := 4) X dX6_copyPart_4 ?_
  refine g_istore (pc := 5) (lv' := [(5, _), (0, _), (1, _), (2, _), (3, _), (4, _)]) X dX6_copyPart_5 (by decide) rfl ?_
  have hL7 : ∀ (fu : Nat) (t : Int) (Hx : Heap), (w - t).toNat < fu → (0 ≤ t ∧ t ≤ w) → (∀ i : Int, 0 ≤ i → i < t → 0 ≤ a + i * e ∧ a + i * e < n2) → (RowAt D r N t (fun j => f2 (a + j * e)) Hx) → (RowAt D o N2 n2 f2 Hx) → (Fr (Iv r (r + 2)) 0 H Hx) → G K 0 0 Hx 7 [(0, .ref r), (1, .ref o), (2, .int (J a)), (3, .int (J e)), (4, .int (J w)), (5, .int (J t))] [] := by
    intro fu
    induction fu with
    | zero => intro t Hx hm; exact absurd hm (Nat.not_lt_zero _)
    | succ fu ih7 =>
      intro t Hx hm h1 h2 hR1 hR2 h3
      have hte : t * e = t ∨ t * e = -t := by rcases he with rfl | rfl <;> omega
      obtain ⟨hO, -⟩ := id hR1
      obtain ⟨hO2, -⟩ := id hR2
      refine g_iload (pc := 7) (pl := 5) X dX6_copyPart_7 rfl ?_
      refine g_iload (pc := 9) (pl := 4) X dX6_copyPart_9 rfl ?_
      refine g_icmp_ge (pc := 11) X 47 dX6_copyPart_11 (by decide) (by omega) (by omega) (fun c11 => ?_) (fun c11 => ?_)
      · skip
        refine g_vret (pc := 47) X R hH dX6_copyPart_47 ?_
        exact ⟨t, by omega, by omega, h2, by omega, hR1, h3⟩
      · skip
        refine g_aload_n (pc := 14) (pl := 1) X dX6_copyPart_14 rfl ?_
        refine g_iload_n (pc := 15) (pl := 2) X dX6_copyPart_15 rfl ?_
        refine g_iload (pc := 16) (pl := 5) X dX6_copyPart_16 rfl ?_
        refine g_iload_n (pc := 18) (pl := 3) X dX6_copyPart_18 rfl ?_
        refine g_imul (pc := 19) X dX6_copyPart_19 ?_
        refine g_iadd (pc := 20) X dX6_copyPart_20 ?_
        refine gVi (pc := 21) (n2 := 0) (k2 := 0) X cs_X6_copyPart_19 (c_X6_has (zl K) D base o N2 n2 f2 (a + t * e) (by omega)) rfl hO2 (by omega) hR2 rfl ⟨Nat.le_of_ble_eq_true rfl, Nat.le_of_ble_eq_true rfl⟩ dX6_copyPart_21 (Nat.le_of_ble_eq_true rfl) rfl rfl (fun v21 H2 hp21 hs21 => ?_)
        obtain ⟨rfl, rfl⟩ := hp21
        refine g_if_eq (pc := 24) X 47 dX6_copyPart_24 (by decide) (zbr _) (fun c24 => ?_) (fun c24 => ?_)
        · skip
          replace c24 := zb0 c24
          refine g_vret (pc := 47) X R hH dX6_copyPart_47 ?_
          exact ⟨t, by omega, by omega, h2, by omega, hR1, h3⟩
        · skip
          replace c24 := zb1 c24
          refine g_aload_n (pc := 27) (pl := 0) X dX6_copyPart_27 rfl ?_
          refine g_aload_n (pc := 28) (pl := 1) X dX6_copyPart_28 rfl ?_
          refine g_iload_n (pc := 29) (pl := 2) X dX6_copyPart_29 rfl ?_
          refine g_iload (pc := 30) (pl := 5) X dX6_copyPart_30 rfl ?_
          refine g_iload_n (pc := 32) (pl := 3) X dX6_copyPart_32 rfl ?_
          refine g_imul (pc := 33) X dX6_copyPart_33 ?_
          refine g_iadd (pc := 34) X dX6_copyPart_34 ?_
          refine gVi (pc := 35) (n2 := 0) (k2 := 0) X cs_X6_copyPart_46 (c_X6_item (zl K) D base o N2 n2 f2 (a + t * e) (by omega)) rfl hO2 (by omega) hR2 rfl ⟨Nat.le_of_ble_eq_true rfl, Nat.le_of_ble_eq_true rfl⟩ dX6_copyPart_35 (Nat.le_of_ble_eq_true rfl) rfl rfl (fun v35 H2 hp35 hs35 => ?_)
          obtain ⟨rfl, rfl⟩ := hp35
          refine gVv (pc := 38) (n2 := 0) (k2 := 0) X cs_X6_copyPart_50 (c_X6_add (zl K) D base r N t (fun j => f2 (a + j * e)) (itm n2 f2 (a + t * e)) hq (by omega)) rfl hO (by omega) hR1 rfl ⟨Nat.le_of_ble_eq_true rfl, Nat.le_of_ble_eq_true rfl⟩ dX6_copyPart_38 (Nat.le_of_ble_eq_true rfl) rfl rfl (fun H2 hp38 hs38 => ?_)
          obtain ⟨hR1, hfb⟩ := hp38
          replace hR2 := hR2.fr hfb (by omega)
          refine g_iinc (pc := 41) (pl := 5) (x := t) (lv' := [(5, _), (0, _), (1, _), (2, _), (3, _), (4, _)]) X dX6_copyPart_41 rfl (by decide) rfl ?_
          refine g_goto (pc := 44) X 7 dX6_copyPart_44 (by decide) ?_
          refine G.pick [1, 2, 3, 4, 5, 0] (lv' := [(0, _), (1, _), (2, _), (3, _), (4, _), (5, _)]) rfl ?_
          exact ih7 (t + 1) H2 (by omega) (by omega) (fun i h0 h1 => by rcases Int.lt_or_le i t with c | c; exact h2 i h0 c; rw [show i = t by omega]; exact c24) (hR1.congr (fun i h0 h1 => by simp only [up]; by_cases c : i = t; (rw [if_pos c, show itm n2 f2 (a + t * e) = f2 (a + t * e) from if_pos c24, c]); (rw [if_neg c]))) hR2 (Fr.trans0 h3 hfb)
  refine G.pick [1, 2, 3, 4, 5, 0] (lv' := [(0, _), (1, _), (2, _), (3, _), (4, _), (5, _)]) rfl ?_
  exact hL7 _ 0 H1 (Nat.lt_succ_self _) (by omega) (fun i h0 h1 => by omega) (hR1.congr (fun i h0 h1 => by omega)) hR2 hfa

abbrev rm_X6_countAlike : Room := { frames := 1, cells := 0, slots := 0, locals := 21 }
theorem zF_X6_countAlike_15 : zF RX6 wsX6_countAlike 6 1 15 := ⟨RX6, TX6, 2, rfl, by decide +kernel, by decide, by decide +kernel⟩
theorem cs_X6_countAlike_46 : zCV RX6 wsX6_countAlike 46 6 yX6_item wsX6_item cX6_item 2 (some .int) rm_X6_countAlike rm_X6_item 1 := ⟨_, _, gX6_countAlike_X6_item, rfl, ⟨by decide +kernel, by decide +kernel, by decide +kernel⟩, ⟨Nat.le_of_ble_eq_true rfl, Nat.le_of_ble_eq_true rfl⟩, rfl, rfl⟩
set_option maxRecDepth 100000 in
theorem c_X6_countAlike (l : Launch) (D : zD) (base : Nat) (r N o N2 : Nat) (n n2 : Int) (f f2 : Int → Int) (a e : Int) (hq : base ≤ r) (hq2 : base ≤ o) (he : e = 1 ∨ e = -1) (ha : -1 ≤ a ∧ a ≤ 1000) (hv : ∀ i : Int, 0 ≤ i → i < n → rg (f i)) (hv2 : ∀ i : Int, 0 ≤ i → i < n2 → rg (f2 i)) : Ct l yX6_countAlike wsX6_countAlike rm_X6_countAlike D base [.ref r, .ref o, .int (J a), .int (J e)] (fun H => RowAt D r N n f H ∧ RowAt D o N2 n2 f2 H) (PI (fun H v H1 => H = H1 ∧ 0 ≤ v ∧ v ≤ n2 ∧ (∀ i : Int, 0 ≤ i → i < v → itm n f (a + i * e) = f2 i) ∧ (v = n2 ∨ ¬ itm n f (a + v * e) = f2 v))) := by
  refine Ct.of (own := RX6) (cc := cX6_countAlike) (maxL := 5) (by decide +kernel) rfl (Nat.le_of_ble_eq_true rfl) rfl ?_
  intro K H X R hH hnm hP
  show G K 0 0 H 0 [(0, .ref r), (1, .ref o), (2, .int (J a)), (3, .int (J e))] []
  obtain ⟨hR, hR2⟩ := hP
  have hbd := hR.bd
  have hbd2 := hR2.bd
  obtain ⟨hO, -⟩ := id hR
  obtain ⟨hO2, -⟩ := id hR2
  refine g_iconst (pc := 0) X dX6_countAlike_0 ?_
  refine g_istore (pc := 1) (lv' := [(4, _), (0, _), (1, _), (2, _), (3, _)]) X dX6_countAlike_1 (by decide) rfl ?_
  have hL3 : ∀ (fu : Nat) (t : Int), (n2 - t).toNat < fu → (0 ≤ t ∧ t ≤ n2) → (∀ i : Int, 0 ≤ i → i < t → itm n f (a + i * e) = f2 i) → G K 0 0 H 3 [(0, .ref r), (1, .ref o), (2, .int (J a)), (3, .int (J e)), (4, .int (J t))] [] := by
    intro fu
    induction fu with
    | zero => intro t hm; exact absurd hm (Nat.not_lt_zero _)
    | succ fu ih3 =>
      intro t hm h1 h2
      have hte : t * e = t ∨ t * e = -t := by rcases he with rfl | rfl <;> omega
      refine g_iload (pc := 3) (pl := 4) X dX6_countAlike_3 rfl ?_
      refine g_aload_n (pc := 5) (pl := 1) X dX6_countAlike_5 rfl ?_
      refine g_getf (pc := 6) X zF_X6_countAlike_15 hO2 rfl dX6_countAlike_6 ?_
      refine g_icmp_ge (pc := 9) X 37 dX6_countAlike_9 (by decide) (by omega) (by omega) (fun c9 => ?_) (fun c9 => ?_)
      · skip
        refine g_iload (pc := 37) (pl := 4) X dX6_countAlike_37 rfl ?_
        refine g_iret (pc := 39) X R hH dX6_countAlike_39 ?_
        refine ⟨rfl, by omega, by omega, h2, ?_⟩
        first | (left; omega) | (right; assumption)
      · skip
        refine g_aload_n (pc := 12) (pl := 0) X dX6_countAlike_12 rfl ?_
        refine g_iload_n (pc := 13) (pl := 2) X dX6_countAlike_13 rfl ?_
        refine g_iload (pc := 14) (pl := 4) X dX6_countAlike_14 rfl ?_
        refine g_iload_n (pc := 16) (pl := 3) X dX6_countAlike_16 rfl ?_
        refine g_imul (pc := 17) X dX6_countAlike_17 ?_
        refine g_iadd (pc := 18) X dX6_countAlike_18 ?_
        refine gVi (pc := 19) (n2 := 0) (k2 := 0) X cs_X6_countAlike_46 (c_X6_item (zl K) D base r N n f (a + t * e) (by omega)) rfl hO (by omega) hR rfl ⟨Nat.le_of_ble_eq_true rfl, Nat.le_of_ble_eq_true rfl⟩ dX6_countAlike_19 (Nat.le_of_ble_eq_true rfl) rfl rfl (fun v19 H1 hp19 hs19 => ?_)
        obtain ⟨rfl, rfl⟩ := hp19
        refine g_aload_n (pc := 22) (pl := 1) X dX6_countAlike_22 rfl ?_
        refine g_iload (pc := 23) (pl := 4) X dX6_countAlike_23 rfl ?_
        refine gVi (pc := 25) (n2 := 0) (k2 := 0) X cs_X6_countAlike_46 (c_X6_item (zl K) D base o N2 n2 f2 t (by omega)) rfl hO2 (by omega) hR2 rfl ⟨Nat.le_of_ble_eq_true rfl, Nat.le_of_ble_eq_true rfl⟩ dX6_countAlike_25 (Nat.le_of_ble_eq_true rfl) rfl rfl (fun v25 H1 hp25 hs25 => ?_)
        obtain ⟨rfl, rfl⟩ := hp25
        have hi2 : itm n2 f2 t = f2 t := if_pos (by omega)
        rw [hi2]
        refine g_icmp_ne (pc := 28) X 37 dX6_countAlike_28 (by decide) (by unfold itm; split; exact hv _ (by omega) (by omega); exact ⟨by decide, by decide⟩) (hv2 t (by omega) (by omega)) (fun c28 => ?_) (fun c28 => ?_)
        · skip
          refine g_iload (pc := 37) (pl := 4) X dX6_countAlike_37 rfl ?_
          refine g_iret (pc := 39) X R hH dX6_countAlike_39 ?_
          refine ⟨rfl, by omega, by omega, h2, ?_⟩
          first | (left; omega) | (right; assumption)
        · skip
          refine g_iinc (pc := 31) (pl := 4) (x := t) (lv' := [(4, _), (0, _), (1, _), (2, _), (3, _)]) X dX6_countAlike_31 rfl (by decide) rfl ?_
          refine g_goto (pc := 34) X 3 dX6_countAlike_34 (by decide) ?_
          refine G.pick [1, 2, 3, 4, 0] (lv' := [(0, _), (1, _), (2, _), (3, _), (4, _)]) rfl ?_
          exact ih3 (t + 1) (by omega) (by omega) (fun i h0 h1 => by rcases Int.lt_or_le i t with c | c; exact h2 i h0 c; rw [show i = t by omega]; exact c28)
  refine G.pick [1, 2, 3, 4, 0] (lv' := [(0, _), (1, _), (2, _), (3, _), (4, _)]) rfl ?_
  exact hL3 _ 0 (Nat.lt_succ_self _) (by omega) (fun i h0 h1 => by omega)

abbrev rm_X6_init : Room := { frames := 1, cells := 1, slots := 80, locals := 12 }
theorem zW_X6_init_9 : zW RX6 wsX6_init 6 0 9 true (tyX6 0) := ⟨RX6, TX6, 2, tyX6, rfl, by decide +kernel, by decide, by decide +kernel, tyX6_ok, nmX6, rfl, rfl, rfl⟩
set_option maxRecDepth 100000 in
theorem c_X6_init (l : Launch) (D : zD) (base : Nat) (r N : Nat) (hq : base ≤ r) (hi : N ≤ 80) : Ct l yX6_init wsX6_init rm_X6_init D base [.ref r, .int (J (N : Int))] (fun H => Ob D r 6 [.null, .int (J 0)] H ∧ H.size = r + 1) (PV (fun H H1 => RowAt D r N 0 (fun _ => 0) H1 ∧ Fr (Iv r (r + 1)) 1 H H1)) := by
  refine Ct.of (own := RX6) (cc := cX6_init) (maxL := 2) (by decide +kernel) rfl (Nat.le_of_ble_eq_true rfl) rfl ?_
  intro K H X R hH hnm hP
  show G K 0 0 H 0 [(0, .ref r), (1, .int (J (N : Int)))] []
  obtain ⟨hO, hsz⟩ := hP
  refine g_aload_n (pc := 0) (pl := 0) X dX6_init_0 rfl ?_
  refine g_objInit (pc := 1) X (by decide +kernel) (by decide +kernel) (by decide +kernel) (by decide) (Nat.le_of_ble_eq_true rfl) dX6_init_1 ?_
  refine g_aload_n (pc := 4) (pl := 0) X dX6_init_4 rfl ?_
  refine g_iload_n (pc := 5) (pl := 1) X dX6_init_5 rfl ?_
  refine g_if_ge (pc := 6) X 13 dX6_init_6 (by decide) (by omega) (fun c6 => ?_) (fun c6 => ?_)
  · skip
    refine g_iload_n (pc := 13) (pl := 1) X dX6_init_13 rfl ?_
    refine g_newarr (pc := 14) (N := N) (n2 := 1) (k2 := N) X (by decide +kernel) rfl (by omega) (Nat.le_of_ble_eq_true rfl) (by show 0 + N ≤ 80; omega) dX6_init_14 rfl (Nat.zero_add N) (fun H1 hz1 hNew hon1 => ?_)
    rw [hsz] at hNew ⊢
    have hA := hNew
    clear hNew
    have hf1 : Fr (Iv 0 0) 1 H H1 := Fr.new hz1 hon1
    replace hsz : H1.size = r + 2 := by have e := hf1.1; omega
    replace hO := hO.fr hf1 (by omega)
    refine g_putF (pc := 16) X zW_X6_init_9 hnm rfl hO (by omega) rfl rfl rfl dX6_init_16 (fun H2 hOn hf2 => ?_)
    replace hsz : H2.size = r + 2 := by have e := hf2.1; omega
    replace hA := hA.fr hf2 (by omega)
    replace hO : Ob D r 6 [.ref (r + 1), .int (J 0)] H2 := hOn
    clear hOn
    refine G.widen (n' := 1) (k' := 80) (by omega) (by omega) ?_
    refine g_vret (pc := 19) X R hH dX6_init_19 ?_
    exact ⟨⟨hO, ⟨_, hA, fun j h0 h1 => by omega⟩, ⟨by omega, by omega, by omega⟩⟩, (Fr.trans hf1.any (hf2.wide (by omega) (by omega)))⟩
  · skip
    omega


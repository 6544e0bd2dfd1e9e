/-- a note: whose reply it is, its words, what stood ahead and behind -/
def NoteAt (D : zD) (q : Nat) (t wl al bl : Int) (w a b : Int → Int) (H : Heap) : Prop :=
  Ob D q 2 [.int (J t), .ref (q + 1), .ref (q + 3), .ref (q + 5)] H ∧ RowAt D (q + 1) 60 wl w H ∧ RowAt D (q + 3) 8 al a H ∧ RowAt D (q + 5) 8 bl b H
theorem NoteAt.fr {D : zD} {q x y d : Nat} {t wl al bl : Int} {w a b : Int → Int} {H H' : Heap} (h : NoteAt D q t wl al bl w a b H) (fr : Fr (Iv x y) d H H') (e : q + 7 ≤ x ∨ y ≤ q) : NoteAt D q t wl al bl w a b H' := by
  obtain ⟨h1, h2, h3, h4⟩ := h
  exact ⟨h1.fr fr (by omega), h2.fr fr (by omega), h3.fr fr (by omega), h4.fr fr (by omega)⟩
theorem NoteAt.lt {D : zD} {q : Nat} {t wl al bl : Int} {w a b : Int → Int} {H : Heap} (h : NoteAt D q t wl al bl w a b H) : q + 6 < H.size := by
  obtain ⟨h1, h2, h3, h4⟩ := h
  exact h4.lt

abbrev rm_X2_init : Room := { frames := 2, cells := 6, slots := 246, locals := 33 }
theorem zW_X2_init_9 : zW RX2 wsX2_init 2 0 9 false (tyX2 0) := ⟨RX2, TX2, 4, tyX2, rfl, by decide +kernel, by decide, by decide +kernel, tyX2_ok, nmX2, rfl, rfl, rfl⟩
theorem cs_X2_init_17 : zCI RX2 wsX2_init 17 yX6_init wsX6_init cX6_init 2 rm_X2_init rm_X6_init 1 := ⟨_, gX2_init_X6_init, Or.inl (by decide +kernel), by decide +kernel, by decide +kernel, rfl, rfl, ⟨by decide +kernel, by decide +kernel, by decide +kernel⟩, ⟨Nat.le_of_ble_eq_true rfl, Nat.le_of_ble_eq_true rfl⟩⟩
theorem zW_X2_init_20 : zW RX2 wsX2_init 2 1 20 true (tyX2 1) := ⟨RX2, TX2, 4, tyX2, rfl, by decide +kernel, by decide, by decide +kernel, tyX2_ok, nmX2, rfl, rfl, rfl⟩
theorem zW_X2_init_24 : zW RX2 wsX2_init 2 2 24 true (tyX2 2) := ⟨RX2, TX2, 4, tyX2, rfl, by decide +kernel, by decide, by decide +kernel, tyX2_ok, nmX2, rfl, rfl, rfl⟩
theorem zW_X2_init_27 : zW RX2 wsX2_init 2 3 27 true (tyX2 3) := ⟨RX2, TX2, 4, tyX2, rfl, by decide +kernel, by decide, by decide +kernel, tyX2_ok, nmX2, rfl, rfl, rfl⟩
set_option maxRecDepth 100000 in
/-- a new note -/
theorem c_X2_init (l : Launch) (D : zD) (base : Nat) (q : Nat) (hq : base ≤ q) : Ct l yX2_init wsX2_init rm_X2_init D base [.ref q] (fun H => Ob D q 2 [.int (J 0), .null, .null, .null] H ∧ H.size = q + 1) (PV (fun H H1 => NoteAt D q (-6) 0 0 0 (fun _ => 0) (fun _ => 0) (fun _ => 0) H1 ∧ Fr (Iv q (q + 7)) 6 H H1)) := by
  refine Ct.of (own := RX2) (cc := cX2_init) (maxL := 1) (by decide +kernel) rfl (Nat.le_of_ble_eq_true rfl) rfl ?_
  intro K H X R hH hnm hP
  show G K 0 0 H 0 [(0, .ref q)] []
  obtain ⟨hO, hsz⟩ := hP
  refine g_aload_n (pc := 0) (pl := 0) X dX2_init_0 rfl ?_
  refine g_objInit (pc := 1) X (by decide +kernel) (by decide +kernel) (by decide +kernel) (by decide) (Nat.le_of_ble_eq_true rfl) dX2_init_1 ?_
  refine g_aload_n (pc := 4) (pl := 0) X dX2_init_4 rfl ?_
  refine g_bipush (pc := 5) X dX2_init_5 (by decide +kernel) ?_
  refine g_putf (pc := 7) X zW_X2_init_9 hO (by omega) rfl rfl rfl dX2_init_7 (fun H1 hOn hf1 => ?_)
  replace hsz : H1.size = q + 1 := by have e := hf1.1; omega
  replace hO : Ob D q 2 [.int (J (-6)), .null, .null, .null] H1 := hOn
  clear hOn
  refine g_aload_n (pc := 10) (pl := 0) X dX2_init_10 rfl ?_
  refine g_new (pc := 11) (ci := 6) (C := RX6) (T := TX6) (N := 2) (tys := tyX6) (fs := [.null, .int (J 0)]) (n2 := 1) (k2 := 2) X rfl (by decide +kernel) tyX6_ok (by decide +kernel) (by decide +kernel) (by decide +kernel) (by decide +kernel) (Nat.le_of_ble_eq_true rfl) (Nat.le_of_ble_eq_true rfl) dX2_init_11 rfl rfl (fun H2 hz2 hNew hon2 => ?_)
  rw [hsz] at hNew ⊢
  have hN1 := hNew
  clear hNew
  have hf2 : Fr (Iv 0 0) 1 H1 H2 := Fr.new hz2 hon2
  replace hsz : H2.size = q + 2 := by have e := hf2.1; omega
  replace hO := hO.fr hf2 (by omega)
  refine g_dup (pc := 14) X dX2_init_14 rfl ?_
  refine g_bipush (pc := 15) X dX2_init_15 (by decide +kernel) ?_
  refine gIv (pc := 17) (n2 := 2) (k2 := 82) X cs_X2_init_17 (c_X6_init (zl K) D base (q + 1) 60 (by omega) (by omega)) rfl (by omega) ⟨hN1, hsz⟩ rfl ⟨(Nat.le_of_ble_eq_true rfl), (Nat.le_of_ble_eq_true rfl)⟩ dX2_init_17 (Nat.le_of_ble_eq_true rfl) rfl rfl (fun H3 hp17 hs17 => ?_)
  obtain ⟨hR1, hfa⟩ := hp17
  replace hsz : H3.size = q + 3 := by have e := hfa.1; omega
  replace hO := hO.fr hfa (by omega)
  refine g_putF (pc := 20) X zW_X2_init_20 hnm rfl hO (by omega) rfl rfl rfl dX2_init_20 (fun H4 hOn hf4 => ?_)
  replace hsz : H4.size = q + 3 := by have e := hf4.1; omega
  replace hR1 := hR1.fr hf4 (by omega)
  replace hO : Ob D q 2 [.int (J (-6)), .ref (q + 1), .null, .null] H4 := hOn
  clear hOn
  refine g_aload_n (pc := 23) (pl := 0) X dX2_init_23 rfl ?_
  refine g_new (pc := 24) (ci := 6) (C := RX6) (T := TX6) (N := 2) (tys := tyX6) (fs := [.null, .int (J 0)]) (n2 := 3) (k2 := 84) X rfl (by decide +kernel) tyX6_ok (by decide +kernel) (by decide +kernel) (by decide +kernel) (by decide +kernel) (Nat.le_of_ble_eq_true rfl) (Nat.le_of_ble_eq_true rfl) dX2_init_24 rfl rfl (fun H5 hz5 hNew hon5 => ?_)
  rw [hsz] at hNew ⊢
  have hN3 := hNew
  clear hNew
  have hf5 : Fr (Iv 0 0) 1 H4 H5 := Fr.new hz5 hon5
  replace hsz : H5.size = q + 4 := by have e := hf5.1; omega
  replace hO := hO.fr hf5 (by omega)
  replace hR1 := hR1.fr hf5 (by omega)
  refine g_dup (pc := 27) X dX2_init_27 rfl ?_
  refine g_bipush (pc := 28) X dX2_init_28 (by decide +kernel) ?_
  refine gIv (pc := 30) (n2 := 4) (k2 := 164) X cs_X2_init_17 (c_X6_init (zl K) D base (q + 3) 8 (by omega) (by omega)) rfl (by omega) ⟨hN3, hsz⟩ rfl ⟨(Nat.le_of_ble_eq_true rfl), (Nat.le_of_ble_eq_true rfl)⟩ dX2_init_30 (Nat.le_of_ble_eq_true rfl) rfl rfl (fun H6 hp30 hs30 => ?_)
  obtain ⟨hR3, hfb⟩ := hp30
  replace hsz : H6.size = q + 5 := by have e := hfb.1; omega
  replace hO := hO.fr hfb (by omega)
  replace hR1 := hR1.fr hfb (by omega)
  refine g_putF (pc := 33) X zW_X2_init_24 hnm rfl hO (by omega) rfl rfl rfl dX2_init_33 (fun H7 hOn hf7 => ?_)
  replace hsz : H7.size = q + 5 := by have e := hf7.1; omega
  replace hR1 := hR1.fr hf7 (by omega)
  replace hR3 := hR3.fr hf7 (by omega)
  replace hO : Ob D q 2 [.int (J (-6)), .ref (q + 1), .ref (q + 3), .null] H7 := hOn
  clear hOn
  refine g_aload_n (pc := 36) (pl := 0) X dX2_init_36 rfl ?_
  refine g_new (pc := 37) (ci := 6) (C := RX6) (T := TX6) (N := 2) (tys := tyX6) (fs := [.null, .int (J 0)]) (n2 := 5) (k2 := 166) X rfl (by decide +kernel) tyX6_ok (by decide +kernel) (by decide +kernel) (by decide +kernel) (by decide +kernel) (Nat.le_of_ble_eq_true rfl) (Nat.le_of_ble_eq_true rfl) dX2_init_37 rfl rfl (fun H8 hz8 hNew hon8 => ?_)
  rw [hsz] at hNew ⊢
  have hN5 := hNew
  clear hNew
  have hf8 : Fr (Iv 0 0) 1 H7 H8 := Fr.new hz8 hon8
  replace hsz : H8.size = q + 6 := by have e := hf8.1; omega
  replace hO := hO.fr hf8 (by omega)
  replace hR1 := hR1.fr hf8 (by omega)
  replace hR3 := hR3.fr hf8 (by omega)
  refine g_dup (pc := 40) X dX2_init_40 rfl ?_
  refine g_bipush (pc := 41) X dX2_init_41 (by decide +kernel) ?_
  refine gIv (pc := 43) (n2 := 6) (k2 := 246) X cs_X2_init_17 (c_X6_init (zl K) D base (q + 5) 8 (by omega) (by omega)) rfl (by omega) ⟨hN5, hsz⟩ rfl ⟨(Nat.le_of_ble_eq_true rfl), (Nat.le_of_ble_eq_true rfl)⟩ dX2_init_43 (Nat.le_of_ble_eq_true rfl) rfl rfl (fun H9 hp43 hs43 => ?_)
  obtain ⟨hR5, hfc⟩ := hp43
  replace hsz : H9.size = q + 7 := by have e := hfc.1; omega
  replace hO := hO.fr hfc (by omega)
  replace hR1 := hR1.fr hfc (by omega)
  replace hR3 := hR3.fr hfc (by omega)
  refine g_putF (pc := 46) X zW_X2_init_27 hnm rfl hO (by omega) rfl rfl rfl dX2_init_46 (fun H10 hOn hf10 => ?_)
  replace hsz : H10.size = q + 7 := by have e := hf10.1; omega
  replace hR1 := hR1.fr hf10 (by omega)
  replace hR3 := hR3.fr hf10 (by omega)
  replace hR5 := hR5.fr hf10 (by omega)
  replace hO : Ob D q 2 [.int (J (-6)), .ref (q + 1), .ref (q + 3), .ref (q + 5)] H10 := hOn
  clear hOn
  refine g_vret (pc := 49) X R hH dX2_init_49 ?_
  exact ⟨⟨hO, hR1, hR3, hR5⟩, (Fr.trans (hf1.wide (by omega) (by omega)) (Fr.trans hf2.any (Fr.trans (hfa.wide (by omega) (by omega)) (Fr.trans (hf4.wide (by omega) (by omega)) (Fr.trans hf5.any (Fr.trans (hfb.wide (by omega) (by omega)) (Fr.trans (hf7.wide (by omega) (by omega)) (Fr.trans hf8.any (Fr.trans (hfc.wide (by omega) (by omega)) (hf10.wide (by omega) (by omega)))))))))))⟩

abbrev rm_X2_isReply : Room := { frames := 0, cells := 0, slots := 0, locals := 0 }
theorem zF_X2_isReply_9 : zF RX2 wsX2_isReply 2 0 9 := ⟨RX2, TX2, 4, rfl, by decide +kernel, by decide, by decide +kernel⟩
set_option maxRecDepth 100000 in
theorem c_X2_isReply (l : Launch) (D : zD) (base : Nat) (q : Nat) (t wl al bl : Int) (w a b : Int → Int) (hq : base ≤ q) (ht : rg t) : Ct l yX2_isReply wsX2_isReply rm_X2_isReply D base [.ref q] (fun H => NoteAt D q t wl al bl w a b H) (PI (fun H v H1 => H = H1 ∧ (if ¬ t = -6 then 1 else 0) = v)) := by
  refine Ct.of (own := RX2) (cc := cX2_isReply) (maxL := 1) (by decide +kernel) rfl (Nat.le_of_ble_eq_true rfl) rfl ?_
  intro K H X R hH hnm hP
  show G K 0 0 H 0 [(0, .ref q)] []
  have hN0 := hP
  obtain ⟨hO, hW, hA, hB⟩ := hP
  refine g_aload_n (pc := 0) (pl := 0) X dX2_isReply_0 rfl ?_
  refine g_getf (pc := 1) X zF_X2_isReply_9 hO rfl dX2_isReply_1 ?_
  refine g_bipush (pc := 4) X dX2_isReply_4 (by decide +kernel) ?_
  refine g_icmp_eq (pc := 6) X 13 dX2_isReply_6 (by decide) (by omega) (by omega) (fun c6 => ?_) (fun c6 => ?_)
  · skip
    refine g_iconst (pc := 13) X dX2_isReply_13 ?_
    refine g_zret (pc := 14) X R hH (by first | exact Or.inl rfl | exact Or.inr rfl | omega) dX2_isReply_14 ?_
    refine ⟨rfl, ?_⟩
    split <;> first | rfl | (exfalso; omega)
  · skip
    refine g_iconst (pc := 9) X dX2_isReply_9 ?_
    refine g_goto (pc := 10) X 14 dX2_isReply_10 (by decide) ?_
    refine g_zret (pc := 14) X R hH (by first | exact Or.inl rfl | exact Or.inr rfl | omega) dX2_isReply_14 ?_
    refine ⟨rfl, ?_⟩
    split <;> first | rfl | (exfalso; omega)

abbrev rm_X2_becomeReply : Room := { frames := 1, cells := 0, slots := 0, locals := 20 }
theorem zW_X2_becomeReply_9 : zW RX2 wsX2_becomeReply 2 0 9 false (tyX2 0) := ⟨RX2, TX2, 4, tyX2, rfl, by decide +kernel, by decide, by decide +kernel, tyX2_ok, nmX2, rfl, rfl, rfl⟩
theorem zF_X2_becomeReply_20 : zF RX2 wsX2_becomeReply 2 1 20 := ⟨RX2, TX2, 4, rfl, by decide +kernel, by decide, by decide +kernel⟩
theorem cs_X2_becomeReply_30 : zCV RX2 wsX2_becomeReply 30 6 yX6_clear wsX6_clear cX6_clear 1 none rm_X2_becomeReply rm_X6_clear 0 := ⟨_, _, gX2_becomeReply_X6_clear, rfl, ⟨by decide +kernel, by decide +kernel, by decide +kernel⟩, ⟨Nat.le_of_ble_eq_true rfl, Nat.le_of_ble_eq_true rfl⟩, rfl, rfl⟩
theorem zF_X2_becomeReply_24 : zF RX2 wsX2_becomeReply 2 2 24 := ⟨RX2, TX2, 4, rfl, by decide +kernel, by decide, by decide +kernel⟩
theorem zF_X2_becomeReply_27 : zF RX2 wsX2_becomeReply 2 3 27 := ⟨RX2, TX2, 4, rfl, by decide +kernel, by decide, by decide +kernel⟩
set_option maxRecDepth 100000 in
theorem c_X2_becomeReply (l : Launch) (D : zD) (base : Nat) (q : Nat) (t wl al bl : Int) (w a b : Int → Int) (n : Int) (hq : base ≤ q) : Ct l yX2_becomeReply wsX2_becomeReply rm_X2_becomeReply D base [.ref q, .int (J n)] (fun H => NoteAt D q t wl al bl w a b H) (PV (fun H H1 => NoteAt D q n 0 0 0 w a b H1 ∧ Fr (Iv q (q + 7)) 0 H H1)) := by
  refine Ct.of (own := RX2) (cc := cX2_becomeReply) (maxL := 2) (by decide +kernel) rfl (Nat.le_of_ble_eq_true rfl) rfl ?_
  intro K H X R hH hnm hP
  show G K 0 0 H 0 [(0, .ref q), (1, .int (J n))] []
  obtain ⟨hO, hW, hA, hB⟩ := hP
  refine g_aload_n (pc := 0) (pl := 0) X dX2_becomeReply_0 rfl ?_
  refine g_iload_n (pc := 1) (pl := 1) X dX2_becomeReply_1 rfl ?_
  refine g_putf (pc := 2) X zW_X2_becomeReply_9 hO (by omega) rfl rfl rfl dX2_becomeReply_2 (fun H1 hOn hf1 => ?_)
  replace hW := hW.fr hf1 (by omega)
  replace hA := hA.fr hf1 (by omega)
  replace hB := hB.fr hf1 (by omega)
  replace hO : Ob D q 2 [.int (J n), .ref (q + 1), .ref (q + 3), .ref (q + 5)] H1 := hOn
  clear hOn
  refine g_aload_n (pc := 5) (pl := 0) X dX2_becomeReply_5 rfl ?_
  refine g_getf (pc := 6) X zF_X2_becomeReply_20 hO rfl dX2_becomeReply_6 ?_
  obtain ⟨hRO, -⟩ := id hW
  refine gVv (pc := 9) (n2 := 0) (k2 := 0) X cs_X2_becomeReply_30 (c_X6_clear (zl K) D base (q + 1) 60 wl w (by omega)) rfl hRO (by omega) hW rfl ⟨Nat.le_of_ble_eq_true rfl, Nat.le_of_ble_eq_true rfl⟩ dX2_becomeReply_9 (Nat.le_of_ble_eq_true rfl) rfl rfl (fun H2 hp9 hs9 => ?_)
  obtain ⟨hWn, hfa⟩ := hp9
  replace hO := hO.fr hfa (by omega)
  replace hA := hA.fr hfa (by omega)
  replace hB := hB.fr hfa (by omega)
  replace hW := hWn
  clear hWn
  refine g_aload_n (pc := 12) (pl := 0) X dX2_becomeReply_12 rfl ?_
  refine g_getf (pc := 13) X zF_X2_becomeReply_24 hO rfl dX2_becomeReply_13 ?_
  obtain ⟨hRO, -⟩ := id hA
  refine gVv (pc := 16) (n2 := 0) (k2 := 0) X cs_X2_becomeReply_30 (c_X6_clear (zl K) D base (q + 3) 8 al a (by omega)) rfl hRO (by omega) hA rfl ⟨Nat.le_of_ble_eq_true rfl, Nat.le_of_ble_eq_true rfl⟩ dX2_becomeReply_16 (Nat.le_of_ble_eq_true rfl) rfl rfl (fun H3 hp16 hs16 => ?_)
  obtain ⟨hAn, hfb⟩ := hp16
  replace hO := hO.fr hfb (by omega)
  replace hW := hW.fr hfb (by omega)
  replace hB := hB.fr hfb (by omega)
  replace hA := hAn
  clear hAn
  refine g_aload_n (pc := 19) (pl := 0) X dX2_becomeReply_19 rfl ?_
  refine g_getf (pc := 20) X zF_X2_becomeReply_27 hO rfl dX2_becomeReply_20 ?_
  obtain ⟨hRO, -⟩ := id hB
  refine gVv (pc := 23) (n2 := 0) (k2 := 0) X cs_X2_becomeReply_30 (c_X6_clear (zl K) D base (q + 5) 8 bl b (by omega)) rfl hRO (by omega) hB rfl ⟨Nat.le_of_ble_eq_true rfl, Nat.le_of_ble_eq_true rfl⟩ dX2_becomeReply_23 (Nat.le_of_ble_eq_true rfl) rfl rfl (fun H4 hp23 hs23 => ?_)
  obtain ⟨hBn, hfc⟩ := hp23
  replace hO := hO.fr hfc (by omega)
  replace hW := hW.fr hfc (by omega)
  replace hA := hA.fr hfc (by omega)
  replace hB := hBn
  clear hBn
  refine g_vret (pc := 26) X R hH dX2_becomeReply_26 ?_
  exact ⟨⟨hO, hW, hA, hB⟩, (Fr.trans (hf1.wide (by omega) (by omega)) (Fr.trans (hfa.wide (by omega) (by omega)) (Fr.trans (hfb.wide (by omega) (by omega)) (hfc.wide (by omega) (by omega)))))⟩

abbrev rm_X2_remember : Room := { frames := 2, cells := 0, slots := 0, locals := 46 }
theorem zW_X2_remember_9 : zW RX2 wsX2_remember 2 0 9 false (tyX2 0) := ⟨RX2, TX2, 4, tyX2, rfl, by decide +kernel, by decide, by decide +kernel, tyX2_ok, nmX2, rfl, rfl, rfl⟩
theorem zF_X2_remember_20 : zF RX2 wsX2_remember 2 1 20 := ⟨RX2, TX2, 4, rfl, by decide +kernel, by decide, by decide +kernel⟩
theorem cs_X2_remember_33 : zCV RX2 wsX2_remember 33 6 yX6_copyPart wsX6_copyPart cX6_copyPart 6 none rm_X2_remember rm_X6_copyPart 4 := ⟨_, _, gX2_remember_X6_copyPart, rfl, ⟨by decide +kernel, by decide +kernel, by decide +kernel⟩, ⟨Nat.le_of_ble_eq_true rfl, Nat.le_of_ble_eq_true rfl⟩, rfl, rfl⟩
theorem zF_X2_remember_24 : zF RX2 wsX2_remember 2 2 24 := ⟨RX2, TX2, 4, rfl, by decide +kernel, by decide, by decide +kernel⟩
theorem zF_X2_remember_27 : zF RX2 wsX2_remember 2 3 27 := ⟨RX2, TX2, 4, rfl, by decide +kernel, by decide, by decide +kernel⟩
set_option maxRecDepth 100000 in
theorem c_X2_remember (l : Launch) (D : zD) (base : Nat) (q : Nat) (t wl al bl : Int) (w a b : Int → Int) (o : Nat) (n2 : Int) (f2 : Int → Int) (x y c : Int) (hq : base ≤ q) (hq2 : base ≤ o) (ho : q + 7 ≤ o ∨ o + 2 ≤ q) (hx : 0 ≤ x ∧ x ≤ y ∧ y < n2) (hc : 0 ≤ c ∧ c ≤ 8) : Ct l yX2_remember wsX2_remember rm_X2_remember D base [.ref q, .ref o, .int (J x), .int (J y), .int (J c)] (fun H => NoteAt D q t wl al bl w a b H ∧ RowAt D o 60 n2 f2 H) (PV (fun H H1 => ∃ wl2 al2 bl2 : Int, NoteAt D q (-6) wl2 al2 bl2 (fun j => f2 (x + j)) (fun j => f2 (x - 1 - j)) (fun j => f2 (y + 1 + j)) H1 ∧ wl2 = y - x + 1 ∧ 0 ≤ al2 ∧ al2 ≤ c ∧ al2 ≤ x ∧ (al2 = c ∨ al2 = x) ∧ 0 ≤ bl2 ∧ bl2 ≤ c ∧ y + bl2 < n2 ∧ (bl2 = c ∨ y + 1 + bl2 = n2) ∧ Fr (Iv q (q + 7)) 0 H H1)) := by
  refine Ct.of (own := RX2) (cc := cX2_remember) (maxL := 5) (by decide +kernel) rfl (Nat.le_of_ble_eq_true rfl) rfl ?_
  intro K H X R hH hnm hP
  show G K 0 0 H 0 [(0, .ref q), (1, .ref o), (2, .int (J x)), (3, .int (J y)), (4, .int (J c))] []
  obtain ⟨⟨hO, hW, hA, hB⟩, hF⟩ := hP
  have hbd := hF.bd
  refine g_aload_n (pc := 0) (pl := 0) X dX2_remember_0 rfl ?_
  refine g_bipush (pc := 1) X dX2_remember_1 (by decide +kernel) ?_
  refine g_putf (pc := 3) X zW_X2_remember_9 hO (by omega) rfl rfl rfl dX2_remember_3 (fun H1 hOn hf1 => ?_)
  replace hW := hW.fr hf1 (by omega)
  replace hA := hA.fr hf1 (by omega)
  replace hB := hB.fr hf1 (by omega)
  replace hF := hF.fr hf1 (by omega)
  replace hO : Ob D q 2 [.int (J (-6)), .ref (q + 1), .ref (q + 3), .ref (q + 5)] H1 := hOn
  clear hOn
  refine g_aload_n (pc := 6) (pl := 0) X dX2_remember_6 rfl ?_
  refine g_getf (pc := 7) X zF_X2_remember_20 hO rfl dX2_remember_7 ?_
  refine g_aload_n (pc := 10) (pl := 1) X dX2_remember_10 rfl ?_
  refine g_iload_n (pc := 11) (pl := 2) X dX2_remember_11 rfl ?_
  refine g_iconst (pc := 12) X dX2_remember_12 ?_
  refine g_iload_n (pc := 13) (pl := 3) X dX2_remember_13 rfl ?_
  refine g_iload_n (pc := 14) (pl := 2) X dX2_remember_14 rfl ?_
  refine g_isub (pc := 15) X dX2_remember_15 ?_
  refine g_iconst (pc := 16) X dX2_remember_16 ?_
  refine g_iadd (pc := 17) X dX2_remember_17 ?_
  obtain ⟨hRO, -⟩ := id hW
  refine gVv (pc := 18) (n2 := 0) (k2 := 0) X cs_X2_remember_33 (c_X6_copyPart (zl K) D base (q + 1) 60 o 60 wl n2 w f2 x 1 (y - x + 1) (by omega) (by omega) (by omega) (by decide) (by omega) (by omega)) rfl hRO (by omega) ⟨hW, hF⟩ rfl ⟨Nat.le_of_ble_eq_true rfl, Nat.le_of_ble_eq_true rfl⟩ dX2_remember_18 (Nat.le_of_ble_eq_true rfl) rfl rfl (fun H2 hp18 hs18 => ?_)
  obtain ⟨cw, cw0, cw1, cw2, cw3, hXn, hfa⟩ := hp18
  replace hO := hO.fr hfa (by omega)
  replace hA := hA.fr hfa (by omega)
  replace hB := hB.fr hfa (by omega)
  replace hF := hF.fr hfa (by omega)
  replace hW := hXn
  clear hXn
  refine g_aload_n (pc := 21) (pl := 0) X dX2_remember_21 rfl ?_
  refine g_getf (pc := 22) X zF_X2_remember_24 hO rfl dX2_remember_22 ?_
  refine g_aload_n (pc := 25) (pl := 1) X dX2_remember_25 rfl ?_
  refine g_iload_n (pc := 26) (pl := 2) X dX2_remember_26 rfl ?_
  refine g_iconst (pc := 27) X dX2_remember_27 ?_
  refine g_isub (pc := 28) X dX2_remember_28 ?_
  refine g_iconst (pc := 29) X dX2_remember_29 ?_
  refine g_iload (pc := 30) (pl := 4) X dX2_remember_30 rfl ?_
  obtain ⟨hRO, -⟩ := id hA
  refine gVv (pc := 32) (n2 := 0) (k2 := 0) X cs_X2_remember_33 (c_X6_copyPart (zl K) D base (q + 3) 8 o 60 al n2 a f2 (x - 1) (-1) c (by omega) (by omega) (by omega) (by decide) (by omega) (by omega)) rfl hRO (by omega) ⟨hA, hF⟩ rfl ⟨Nat.le_of_ble_eq_true rfl, Nat.le_of_ble_eq_true rfl⟩ dX2_remember_32 (Nat.le_of_ble_eq_true rfl) rfl rfl (fun H3 hp32 hs32 => ?_)
  obtain ⟨ca, ca0, ca1, ca2, ca3, hXn, hfb⟩ := hp32
  replace hO := hO.fr hfb (by omega)
  replace hW := hW.fr hfb (by omega)
  replace hB := hB.fr hfb (by omega)
  replace hF := hF.fr hfb (by omega)
  replace hA := hXn
  clear hXn
  refine g_aload_n (pc := 35) (pl := 0) X dX2_remember_35 rfl ?_
  refine g_getf (pc := 36) X zF_X2_remember_27 hO rfl dX2_remember_36 ?_
  refine g_aload_n (pc := 39) (pl := 1) X dX2_remember_39 rfl ?_
  refine g_iload_n (pc := 40) (pl := 3) X dX2_remember_40 rfl ?_
  refine g_iconst (pc := 41) X dX2_remember_41 ?_
  refine g_iadd (pc := 42) X dX2_remember_42 ?_
  refine g_iconst (pc := 43) X dX2_remember_43 ?_
  refine g_iload (pc := 44) (pl := 4) X dX2_remember_44 rfl ?_
  obtain ⟨hRO, -⟩ := id hB
  refine gVv (pc := 46) (n2 := 0) (k2 := 0) X cs_X2_remember_33 (c_X6_copyPart (zl K) D base (q + 5) 8 o 60 bl n2 b f2 (y + 1) 1 c (by omega) (by omega) (by omega) (by decide) (by omega) (by omega)) rfl hRO (by omega) ⟨hB, hF⟩ rfl ⟨Nat.le_of_ble_eq_true rfl, Nat.le_of_ble_eq_true rfl⟩ dX2_remember_46 (Nat.le_of_ble_eq_true rfl) rfl rfl (fun H4 hp46 hs46 => ?_)
  obtain ⟨cb, cb0, cb1, cb2, cb3, hXn, hfc⟩ := hp46
  replace hO := hO.fr hfc (by omega)
  replace hW := hW.fr hfc (by omega)
  replace hA := hA.fr hfc (by omega)
  replace hF := hF.fr hfc (by omega)
  replace hB := hXn
  clear hXn
  refine g_vret (pc := 49) X R hH dX2_remember_49 ?_
  have ew : cw = y - x + 1 := by rcases cw3 with e | e <;> omega
  have ea : ca ≤ x := by rcases Int.lt_or_le 0 ca with e | e; (have := ca2 (ca - 1) (by omega) (by omega); omega); omega
  have eb : y + cb < n2 := by rcases Int.lt_or_le 0 cb with e | e; (have := cb2 (cb - 1) (by omega) (by omega); omega); omega
  refine ⟨cw, ca, cb, ⟨hO, hW.congr (fun i h0 h1 => by congr 1 <;> omega), hA.congr (fun i h0 h1 => by congr 1 <;> omega), hB.congr (fun i h0 h1 => by congr 1 <;> omega)⟩, ew, ca0, ca1, ea, by rcases ca3 with e | e <;> omega, cb0, cb1, eb, by rcases cb3 with e | e <;> omega, (Fr.trans (hf1.wide (by omega) (by omega)) (Fr.trans (hfa.wide (by omega) (by omega)) (Fr.trans (hfb.wide (by omega) (by omega)) (hfc.wide (by omega) (by omega)))))⟩

abbrev rm_X2_copyFrom : Room := { frames := 2, cells := 0, slots := 0, locals := 81 }
theorem zF_X2_copyFrom_9 : zF RX2 wsX2_copyFrom 2 0 9 := ⟨RX2, TX2, 4, rfl, by decide +kernel, by decide, by decide +kernel⟩
theorem zW_X2_copyFrom_9 : zW RX2 wsX2_copyFrom 2 0 9 false (tyX2 0) := ⟨RX2, TX2, 4, tyX2, rfl, by decide +kernel, by decide, by decide +kernel, tyX2_ok, nmX2, rfl, rfl, rfl⟩
theorem zF_X2_copyFrom_20 : zF RX2 wsX2_copyFrom 2 1 20 := ⟨RX2, TX2, 4, rfl, by decide +kernel, by decide, by decide +kernel⟩
theorem cs_X2_copyFrom_37 : zCV RX2 wsX2_copyFrom 37 6 yX6_copyFrom wsX6_copyFrom cX6_copyFrom 2 none rm_X2_copyFrom rm_X6_copyFrom 1 := ⟨_, _, gX2_copyFrom_X6_copyFrom, rfl, ⟨by decide +kernel, by decide +kernel, by decide +kernel⟩, ⟨Nat.le_of_ble_eq_true rfl, Nat.le_of_ble_eq_true rfl⟩, rfl, rfl⟩
theorem zF_X2_copyFrom_24 : zF RX2 wsX2_copyFrom 2 2 24 := ⟨RX2, TX2, 4, rfl, by decide +kernel, by decide, by decide +kernel⟩
theorem zF_X2_copyFrom_27 : zF RX2 wsX2_copyFrom 2 3 27 := ⟨RX2, TX2, 4, rfl, by decide +kernel, by decide, by decide +kernel⟩
set_option maxRecDepth 100000 in
theorem c_X2_copyFrom (l : Launch) (D : zD) (base : Nat) (q : Nat) (t wl al bl : Int) (w a b : Int → Int) (q2 : Nat) (t2 wl2 al2 bl2 : Int) (w2 a2 b2 : Int → Int) (hq : base ≤ q) (ho : q + 7 ≤ q2 ∨ q2 + 7 ≤ q) : Ct l yX2_copyFrom wsX2_copyFrom rm_X2_copyFrom D base [.ref q, .ref q2] (fun H => NoteAt D q t wl al bl w a b H ∧ NoteAt D q2 t2 wl2 al2 bl2 w2 a2 b2 H) (PV (fun H H1 => NoteAt D q t2 wl2 al2 bl2 w2 a2 b2 H1 ∧ Fr (Iv q (q + 7)) 0 H H1)) := by
  refine Ct.of (own := RX2) (cc := cX2_copyFrom) (maxL := 2) (by decide +kernel) rfl (Nat.le_of_ble_eq_true rfl) rfl ?_
  intro K H X R hH hnm hP
  show G K 0 0 H 0 [(0, .ref q), (1, .ref q2)] []
  obtain ⟨⟨hO, hW, hA, hB⟩, ⟨hO2, hW2, hA2, hB2⟩⟩ := hP
  have hbw := hW2.bd
  have hba := hA2.bd
  have hbb := hB2.bd
  refine g_aload_n (pc := 0) (pl := 0) X dX2_copyFrom_0 rfl ?_
  refine g_aload_n (pc := 1) (pl := 1) X dX2_copyFrom_1 rfl ?_
  refine g_getf (pc := 2) X zF_X2_copyFrom_9 hO2 rfl dX2_copyFrom_2 ?_
  refine g_putf (pc := 5) X zW_X2_copyFrom_9 hO (by omega) rfl rfl rfl dX2_copyFrom_5 (fun H1 hOn hf1 => ?_)
  replace hO2 := hO2.fr hf1 (by omega)
  replace hW := hW.fr hf1 (by omega)
  replace hA := hA.fr hf1 (by omega)
  replace hB := hB.fr hf1 (by omega)
  replace hW2 := hW2.fr hf1 (by omega)
  replace hA2 := hA2.fr hf1 (by omega)
  replace hB2 := hB2.fr hf1 (by omega)
  replace hO : Ob D q 2 [.int (J t2), .ref (q + 1), .ref (q + 3), .ref (q + 5)] H1 := hOn
  clear hOn
  refine g_aload_n (pc := 8) (pl := 0) X dX2_copyFrom_8 rfl ?_
  refine g_getf (pc := 9) X zF_X2_copyFrom_20 hO rfl dX2_copyFrom_9 ?_
  refine g_aload_n (pc := 12) (pl := 1) X dX2_copyFrom_12 rfl ?_
  refine g_getf (pc := 13) X zF_X2_copyFrom_20 hO2 rfl dX2_copyFrom_13 ?_
  obtain ⟨hRO, -⟩ := id hW
  refine gVv (pc := 16) (n2 := 0) (k2 := 0) X cs_X2_copyFrom_37 (c_X6_copyFrom (zl K) D base (q + 1) 60 (q2 + 1) 60 wl wl2 w w2 (by omega) (by omega) (by omega)) rfl hRO (by omega) ⟨hW, hW2⟩ rfl ⟨Nat.le_of_ble_eq_true rfl, Nat.le_of_ble_eq_true rfl⟩ dX2_copyFrom_16 (Nat.le_of_ble_eq_true rfl) rfl rfl (fun H2 hp16 hs16 => ?_)
  obtain ⟨hWn, hfa⟩ := hp16
  replace hO := hO.fr hfa (by omega)
  replace hO2 := hO2.fr hfa (by omega)
  replace hA := hA.fr hfa (by omega)
  replace hB := hB.fr hfa (by omega)
  replace hW2 := hW2.fr hfa (by omega)
  replace hA2 := hA2.fr hfa (by omega)
  replace hB2 := hB2.fr hfa (by omega)
  replace hW := hWn
  clear hWn
  refine g_aload_n (pc := 19) (pl := 0) X dX2_copyFrom_19 rfl ?_
  refine g_getf (pc := 20) X zF_X2_copyFrom_24 hO rfl dX2_copyFrom_20 ?_
  refine g_aload_n (pc := 23) (pl := 1) X dX2_copyFrom_23 rfl ?_
  refine g_getf (pc := 24) X zF_X2_copyFrom_24 hO2 rfl dX2_copyFrom_24 ?_
  obtain ⟨hRO, -⟩ := id hA
  refine gVv (pc := 27) (n2 := 0) (k2 := 0) X cs_X2_copyFrom_37 (c_X6_copyFrom (zl K) D base (q + 3) 8 (q2 + 3) 8 al al2 a a2 (by omega) (by omega) (by omega)) rfl hRO (by omega) ⟨hA, hA2⟩ rfl ⟨Nat.le_of_ble_eq_true rfl, Nat.le_of_ble_eq_true rfl⟩ dX2_copyFrom_27 (Nat.le_of_ble_eq_true rfl) rfl rfl (fun H3 hp27 hs27 => ?_)
  obtain ⟨hAn, hfb⟩ := hp27
  replace hO := hO.fr hfb (by omega)
  replace hO2 := hO2.fr hfb (by omega)
  replace hW := hW.fr hfb (by omega)
  replace hB := hB.fr hfb (by omega)
  replace hW2 := hW2.fr hfb (by omega)
  replace hA2 := hA2.fr hfb (by omega)
  replace hB2 := hB2.fr hfb (by omega)
  replace hA := hAn
  clear hAn
  refine g_aload_n (pc := 30) (pl := 0) X dX2_copyFrom_30 rfl ?_
  refine g_getf (pc := 31) X zF_X2_copyFrom_27 hO rfl dX2_copyFrom_31 ?_
  refine g_aload_n (pc := 34) (pl := 1) X dX2_copyFrom_34 rfl ?_
  refine g_getf (pc := 35) X zF_X2_copyFrom_27 hO2 rfl dX2_copyFrom_35 ?_
  obtain ⟨hRO, -⟩ := id hB
  refine gVv (pc := 38) (n2 := 0) (k2 := 0) X cs_X2_copyFrom_37 (c_X6_copyFrom (zl K) D base (q + 5) 8 (q2 + 5) 8 bl bl2 b b2 (by omega) (by omega) (by omega)) rfl hRO (by omega) ⟨hB, hB2⟩ rfl ⟨Nat.le_of_ble_eq_true rfl, Nat.le_of_ble_eq_true rfl⟩ dX2_copyFrom_38 (Nat.le_of_ble_eq_true rfl) rfl rfl (fun H4 hp38 hs38 => ?_)
  obtain ⟨hBn, hfc⟩ := hp38
  replace hO := hO.fr hfc (by omega)
  replace hO2 := hO2.fr hfc (by omega)
  replace hW := hW.fr hfc (by omega)
  replace hA := hA.fr hfc (by omega)
  replace hW2 := hW2.fr hfc (by omega)
  replace hA2 := hA2.fr hfc (by omega)
  replace hB2 := hB2.fr hfc (by omega)
  replace hB := hBn
  clear hBn
  refine g_vret (pc := 41) X R hH dX2_copyFrom_41 ?_
  exact ⟨⟨hO, hW, hA, hB⟩, (Fr.trans (hf1.wide (by omega) (by omega)) (Fr.trans (hfa.wide (by omega) (by omega)) (Fr.trans (hfb.wide (by omega) (by omega)) (hfc.wide (by omega) (by omega)))))⟩


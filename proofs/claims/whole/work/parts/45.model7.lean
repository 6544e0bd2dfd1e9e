/-- the model's slots: which are held, and what they hold -/
def SvAt (D : zD) (y : Nat) (hb : Int → Int) (ss : Int → Int → Int) (H : Heap) : Prop := Ba D (y + 4) 2 hb H ∧ (∀ i : Int, 0 ≤ i → i < 2 → hb i = 0 ∨ hb i = 1) ∧ ∃ ps : Int → Int, Ia D (y + 3) 2810 ps H ∧ ∀ i j : Int, 0 ≤ i → i < 2 → hb i = 1 → 0 ≤ j → j < 1405 → ps (1405 * i + j) = ss i j
theorem SvAt.fr {D : zD} {y a b d : Nat} {hb : Int → Int} {ss : Int → Int → Int} {H H' : Heap} (h : SvAt D y hb ss H) (fr : Fr (Iv a b) d H H') (e : y + 5 ≤ a ∨ b ≤ y + 3) : SvAt D y hb ss H' := by
  obtain ⟨h1, h2, ps, h3, h4⟩ := h
  exact ⟨h1.fr fr (by omega), h2, ps, h3.fr fr (by omega), h4⟩

abbrev rm_X9_undo : Room := { frames := 1, cells := 0, slots := 0, locals := 24 }
theorem zF_X9_undo_49 : zF RX9 wsX9_undo 9 2 49 := ⟨RX9, TX9, 17, rfl, by decide +kernel, by decide, by decide +kernel⟩
theorem zW_X9_undo_49 : zW RX9 wsX9_undo 9 2 49 false (tyX9 2) := ⟨RX9, TX9, 17, tyX9, rfl, by decide +kernel, by decide, by decide +kernel, tyX9_ok, nmX9, rfl, rfl, rfl⟩
theorem zF_X9_undo_13 : zF RX9 wsX9_undo 9 1 13 := ⟨RX9, TX9, 17, rfl, by decide +kernel, by decide, by decide +kernel⟩
theorem zF_X9_undo_7 : zF RX9 wsX9_undo 9 0 7 := ⟨RX9, TX9, 17, rfl, by decide +kernel, by decide, by decide +kernel⟩
theorem cs_X9_undo_53 : zCJ RX9 wsX9_undo 53 yX9_lays wsX9_lays cX9_lays 5 none rm_X9_undo rm_X9_lays 4 := ⟨_, gX9_undo_X9_lays, rfl, ⟨by decide +kernel, by decide +kernel, by decide +kernel⟩, ⟨Nat.le_of_ble_eq_true rfl, Nat.le_of_ble_eq_true rfl⟩⟩
set_option maxRecDepth 100000 in
theorem c_X9_undo (l : Launch) (D : zD) (base : Nat) (y : Nat) (kp pd at' od fi la pc : Int) (f : Int → Int) (st : Int → Int → Int) (hq : base ≤ y) (hkp : 0 ≤ kp ∧ kp ≤ 6) : Ct l yX9_undo wsX9_undo rm_X9_undo D base [.ref y] (fun H => MoO D y kp pd at' od fi la pc H ∧ NwAt D y f H ∧ PaAt D y kp st H) (PI (fun H v H1 => (if 0 < kp then kp - 1 else -5) = v ∧ MoO D y (if 0 < kp then kp - 1 else kp) pd at' od fi la pc H1 ∧ (∃ f2 : Int → Int, NwAt D y f2 H1 ∧ (0 < kp → ∀ j : Int, 0 ≤ j → j < 1405 → f2 j = st (kp - 1) j) ∧ (¬ 0 < kp → f2 = f)) ∧ PaAt D y (if 0 < kp then kp - 1 else kp) st H1 ∧ Fr (Iv y (y + 2)) 0 H H1)) := by
  refine Ct.of (own := RX9) (cc := cX9_undo) (maxL := 1) (by decide +kernel) rfl (Nat.le_of_ble_eq_true rfl) rfl ?_
  intro K H X R hH hnm hP
  show G K 0 0 H 0 [(0, .ref y)] []
  obtain ⟨hO, hNw, ⟨ps, hPs, hst⟩⟩ := hP
  refine g_aload_n (pc := 0) (pl := 0) X dX9_undo_0 rfl ?_
  refine g_getf (pc := 1) X zF_X9_undo_49 hO rfl dX9_undo_1 ?_
  refine g_if_ne (pc := 4) X 10 dX9_undo_4 (by decide) (by omega) (fun c4 => ?_) (fun c4 => ?_)
  · skip
    refine g_aload_n (pc := 10) (pl := 0) X dX9_undo_10 rfl ?_
    refine g_dup (pc := 11) X dX9_undo_11 rfl ?_
    refine g_getf (pc := 12) X zF_X9_undo_49 hO rfl dX9_undo_12 ?_
    refine g_iconst (pc := 15) X dX9_undo_15 ?_
    refine g_isub (pc := 16) X dX9_undo_16 ?_
    refine g_putf (pc := 17) X zW_X9_undo_49 hO (by omega) rfl rfl rfl dX9_undo_17 (fun H1 hOn hf1 => ?_)
    replace hNw := hNw.fr hf1 (by omega)
    replace hPs := hPs.fr hf1 (by omega)
    replace hO : Ob D y 9 [.ref (y + 1), .ref (y + 2), .int (J (kp - 1)), .ref (y + 3), .ref (y + 4), .ref (y + 5), .int (J pd), .int (J at'), .ref (y + 6), .int (J od), .int (J fi), .int (J la), .int (J pc), .ref (y + 7), .ref (y + 8), .ref (y + 9), .ref (y + 10)] H1 := hOn
    clear hOn
    refine g_aload_n (pc := 20) (pl := 0) X dX9_undo_20 rfl ?_
    refine g_getf (pc := 21) X zF_X9_undo_13 hO rfl dX9_undo_21 ?_
    refine g_sipush (pc := 24) X dX9_undo_24 (by decide +kernel) ?_
    refine g_aload_n (pc := 27) (pl := 0) X dX9_undo_27 rfl ?_
    refine g_getf (pc := 28) X zF_X9_undo_49 hO rfl dX9_undo_28 ?_
    refine g_imul (pc := 31) X dX9_undo_31 ?_
    refine g_aload_n (pc := 32) (pl := 0) X dX9_undo_32 rfl ?_
    refine g_getf (pc := 33) X zF_X9_undo_7 hO rfl dX9_undo_33 ?_
    refine g_iconst (pc := 36) X dX9_undo_36 ?_
    refine gJv (pc := 37) (n2 := 0) (k2 := 0) X cs_X9_undo_53 (c_X9_lays (zl K) D base (y + 2) (y + 1) 8430 1405 (1405 * (kp - 1)) 0 ps f (by omega) (by omega) (by omega) (by omega)) rfl (by have := hO.lt; omega) ⟨hPs, hNw⟩ rfl ⟨Nat.le_of_ble_eq_true rfl, Nat.le_of_ble_eq_true rfl⟩ dX9_undo_37 (Nat.le_of_ble_eq_true rfl) rfl rfl (fun H2 hp37 hs37 => ?_)
    obtain ⟨hIn, hfl⟩ := hp37
    replace hO := hO.fr hfl (by omega)
    replace hPs := hPs.fr hfl (by omega)
    refine g_aload_n (pc := 40) (pl := 0) X dX9_undo_40 rfl ?_
    refine g_getf (pc := 41) X zF_X9_undo_49 hO rfl dX9_undo_41 ?_
    refine g_iret (pc := 44) X R hH dX9_undo_44 ?_
    exact ⟨if_pos (by omega), by rw [if_pos (by omega)]; exact hO, ⟨_, hIn, fun _ j j0 j1 => (if_pos (by omega)).trans ((congrArg ps (by omega)).trans (hst (kp - 1) j (by omega) (by omega) j0 j1)), fun z => by omega⟩, by rw [if_pos (by omega)]; exact ⟨ps, hPs, fun i j i0 i1 j0 j1 => hst i j i0 (by omega) j0 j1⟩, (Fr.trans (hf1.wide (by omega) (by omega)) (hfl.wide (by omega) (by omega)))⟩
  · skip
    refine g_bipush (pc := 7) X dX9_undo_7 (by decide +kernel) ?_
    refine g_iret (pc := 9) X R hH dX9_undo_9 ?_
    exact ⟨if_neg (by omega), by rw [if_neg (by omega)]; exact hO, ⟨f, hNw, fun z => by omega, fun _ => rfl⟩, by rw [if_neg (by omega)]; exact ⟨ps, hPs, hst⟩, Fr.refl _ _⟩

abbrev rm_X9_save : Room := { frames := 1, cells := 0, slots := 0, locals := 24 }
theorem cs_X9_save_41 : zCJ RX9 wsX9_save 41 yX9_in wsX9_in cX9_in 3 (some .boolean) rm_X9_save rm_X9_in 3 := ⟨_, gX9_save_X9_in, rfl, ⟨by decide +kernel, by decide +kernel, by decide +kernel⟩, ⟨Nat.le_of_ble_eq_true rfl, Nat.le_of_ble_eq_true rfl⟩⟩
theorem zF_X9_save_7 : zF RX9 wsX9_save 9 0 7 := ⟨RX9, TX9, 17, rfl, by decide +kernel, by decide, by decide +kernel⟩
theorem zF_X9_save_16 : zF RX9 wsX9_save 9 3 16 := ⟨RX9, TX9, 17, rfl, by decide +kernel, by decide, by decide +kernel⟩
theorem cs_X9_save_53 : zCJ RX9 wsX9_save 53 yX9_lays wsX9_lays cX9_lays 5 none rm_X9_save rm_X9_lays 4 := ⟨_, gX9_save_X9_lays, rfl, ⟨by decide +kernel, by decide +kernel, by decide +kernel⟩, ⟨Nat.le_of_ble_eq_true rfl, Nat.le_of_ble_eq_true rfl⟩⟩
theorem zF_X9_save_19 : zF RX9 wsX9_save 9 4 19 := ⟨RX9, TX9, 17, rfl, by decide +kernel, by decide, by decide +kernel⟩
set_option maxRecDepth 100000 in
theorem c_X9_save (l : Launch) (D : zD) (base : Nat) (y : Nat) (kp pd at' od fi la pc : Int) (f : Int → Int) (hb : Int → Int) (ss : Int → Int → Int) (e : Int) (hq : base ≤ y) (he : rg e) : Ct l yX9_save wsX9_save rm_X9_save D base [.ref y, .int (J e)] (fun H => MoO D y kp pd at' od fi la pc H ∧ NwAt D y f H ∧ SvAt D y hb ss H) (PI (fun H v H1 => (if 0 ≤ e ∧ e < 2 then f 0 else -2) = v ∧ MoO D y kp pd at' od fi la pc H1 ∧ NwAt D y f H1 ∧ SvAt D y (if 0 ≤ e ∧ e < 2 then up hb e 1 else hb) (if 0 ≤ e ∧ e < 2 then up2 ss e f else ss) H1 ∧ Fr (Iv (y + 3) (y + 5)) 0 H H1)) := by
  refine Ct.of (own := RX9) (cc := cX9_save) (maxL := 2) (by decide +kernel) rfl (Nat.le_of_ble_eq_true rfl) rfl ?_
  intro K H X R hH hnm hP
  show G K 0 0 H 0 [(0, .ref y), (1, .int (J e))] []
  obtain ⟨hO, hNw, ⟨hHb, hb01, ps, hSl, hss⟩⟩ := hP
  refine g_iload_n (pc := 0) (pl := 1) X dX9_save_0 rfl ?_
  refine g_iconst (pc := 1) X dX9_save_1 ?_
  refine g_iconst (pc := 2) X dX9_save_2 ?_
  refine gJi (pc := 3) (n2 := 0) (k2 := 0) X cs_X9_save_41 (c_X9_in (zl K) D base e 0 1 (by omega) (by omega) (by omega)) rfl (by have := hO.lt; omega) trivial rfl ⟨Nat.le_of_ble_eq_true rfl, Nat.le_of_ble_eq_true rfl⟩ dX9_save_3 (Nat.le_of_ble_eq_true rfl) rfl rfl (fun v3 H1 hp3 hs3 => ?_)
  obtain ⟨rfl, rfl⟩ := hp3
  refine g_if_ne (pc := 6) X 12 dX9_save_6 (by decide) (zbr _) (fun c6 => ?_) (fun c6 => ?_)
  · skip
    replace c6 := zb1 c6
    refine g_aload_n (pc := 12) (pl := 0) X dX9_save_12 rfl ?_
    refine g_getf (pc := 13) X zF_X9_save_7 hO rfl dX9_save_13 ?_
    refine g_iconst (pc := 16) X dX9_save_16 ?_
    refine g_aload_n (pc := 17) (pl := 0) X dX9_save_17 rfl ?_
    refine g_getf (pc := 18) X zF_X9_save_16 hO rfl dX9_save_18 ?_
    refine g_sipush (pc := 21) X dX9_save_21 (by decide +kernel) ?_
    refine g_iload_n (pc := 24) (pl := 1) X dX9_save_24 rfl ?_
    refine g_imul (pc := 25) X dX9_save_25 ?_
    refine gJv (pc := 26) (n2 := 0) (k2 := 0) X cs_X9_save_53 (c_X9_lays (zl K) D base (y + 1) (y + 3) 1405 2810 0 (1405 * e) f ps (by omega) (by omega) (by omega) (by omega)) rfl (by have := hO.lt; omega) ⟨hNw, hSl⟩ rfl ⟨Nat.le_of_ble_eq_true rfl, Nat.le_of_ble_eq_true rfl⟩ dX9_save_26 (Nat.le_of_ble_eq_true rfl) rfl rfl (fun H1 hp26 hs26 => ?_)
    obtain ⟨hIn, hfl⟩ := hp26
    replace hO := hO.fr hfl (by omega)
    replace hNw := hNw.fr hfl (by omega)
    replace hHb := hHb.fr hfl (by omega)
    clear hSl
    have hSl := hIn
    clear hIn
    refine g_aload_n (pc := 29) (pl := 0) X dX9_save_29 rfl ?_
    refine g_getf (pc := 30) X zF_X9_save_19 hO rfl dX9_save_30 ?_
    refine g_iload_n (pc := 33) (pl := 1) X dX9_save_33 rfl ?_
    refine g_iconst (pc := 34) X dX9_save_34 ?_
    refine g_bastore (pc := 35) X hHb (by omega) (by omega) (by omega) (by omega) rfl dX9_save_35 (fun H2 hHbn hf2 => ?_)
    replace hO := hO.fr hf2 (by omega)
    replace hNw := hNw.fr hf2 (by omega)
    replace hSl := hSl.fr hf2 (by omega)
    replace hHb := hHbn
    clear hHbn
    refine g_aload_n (pc := 36) (pl := 0) X dX9_save_36 rfl ?_
    refine g_getf (pc := 37) X zF_X9_save_7 hO rfl dX9_save_37 ?_
    refine g_iconst (pc := 40) X dX9_save_40 ?_
    refine g_iaload (pc := 41) X hNw (by omega) (by omega) (by omega) dX9_save_41 ?_
    refine g_iret (pc := 42) X R hH dX9_save_42 ?_
    refine ⟨if_pos (by omega), hO, hNw, ?_, (Fr.trans (hfl.wide (by omega) (by omega)) (hf2.wide (by omega) (by omega)))⟩
    rw [if_pos (by omega), if_pos (by omega)]
    refine ⟨hHb, fun i i0 i1 => ?_, _, hSl, fun i j i0 i1 hi j0 j1 => ?_⟩
    · by_cases z : i = e
      · exact Or.inr (if_pos z)
      · rw [show up hb e 1 i = hb i from if_neg z]; exact hb01 i i0 i1
    · by_cases z : i = e
      · rw [show up2 ss e f i j = f j from congrFun (if_pos z) j, z]; exact (if_pos (by omega)).trans (congrArg f (by omega))
      · rw [show up2 ss e f i j = ss i j from congrFun (if_neg z) j]; rw [show up hb e 1 i = hb i from if_neg z] at hi; exact (if_neg (by omega)).trans (hss i j i0 i1 hi j0 j1)
  · skip
    replace c6 := zb0 c6
    refine g_bipush (pc := 9) X dX9_save_9 (by decide +kernel) ?_
    refine g_iret (pc := 11) X R hH dX9_save_11 ?_
    exact ⟨if_neg (by omega), hO, hNw, by rw [if_neg (by omega), if_neg (by omega)]; exact ⟨hHb, hb01, ps, hSl, hss⟩, Fr.refl _ _⟩

abbrev rm_X9_restore : Room := { frames := 2, cells := 0, slots := 0, locals := 45 }
theorem cs_X9_restore_41 : zCJ RX9 wsX9_restore 41 yX9_in wsX9_in cX9_in 3 (some .boolean) rm_X9_restore rm_X9_in 3 := ⟨_, gX9_restore_X9_in, rfl, ⟨by decide +kernel, by decide +kernel, by decide +kernel⟩, ⟨Nat.le_of_ble_eq_true rfl, Nat.le_of_ble_eq_true rfl⟩⟩
theorem zF_X9_restore_19 : zF RX9 wsX9_restore 9 4 19 := ⟨RX9, TX9, 17, rfl, by decide +kernel, by decide, by decide +kernel⟩
theorem cs_X9_restore_57 : zCV RX9 wsX9_restore 57 9 yX9_records wsX9_records cX9_records 2 none rm_X9_restore rm_X9_records 0 := ⟨_, _, gX9_restore_X9_records, rfl, ⟨by decide +kernel, by decide +kernel, by decide +kernel⟩, ⟨Nat.le_of_ble_eq_true rfl, Nat.le_of_ble_eq_true rfl⟩, rfl, rfl⟩
theorem zF_X9_restore_16 : zF RX9 wsX9_restore 9 3 16 := ⟨RX9, TX9, 17, rfl, by decide +kernel, by decide, by decide +kernel⟩
theorem zF_X9_restore_7 : zF RX9 wsX9_restore 9 0 7 := ⟨RX9, TX9, 17, rfl, by decide +kernel, by decide, by decide +kernel⟩
theorem cs_X9_restore_53 : zCJ RX9 wsX9_restore 53 yX9_lays wsX9_lays cX9_lays 5 none rm_X9_restore rm_X9_lays 4 := ⟨_, gX9_restore_X9_lays, rfl, ⟨by decide +kernel, by decide +kernel, by decide +kernel⟩, ⟨Nat.le_of_ble_eq_true rfl, Nat.le_of_ble_eq_true rfl⟩⟩
set_option maxRecDepth 100000 in
theorem c_X9_restore (l : Launch) (D : zD) (base : Nat) (y : Nat) (kp pd at' od fi la pc : Int) (f : Int → Int) (st : Int → Int → Int) (hb : Int → Int) (ss : Int → Int → Int) (e : Int) (hq : base ≤ y) (hI : PInv f) (hkp : 0 ≤ kp ∧ kp ≤ 6) (he : rg e) (hsr : ∀ i : Int, 0 ≤ i → i < 2 → hb i = 1 → 0 ≤ ss i 0) : Ct l yX9_restore wsX9_restore rm_X9_restore D base [.ref y, .int (J e)] (fun H => MoO D y kp pd at' od fi la pc H ∧ NwAt D y f H ∧ PaAt D y kp st H ∧ SvAt D y hb ss H) (PI (fun H v H1 => (if ¬ (0 ≤ e ∧ e < 2) then -2 else if hb e = 0 then -5 else ss e 0) = v ∧ MoO D y (hsN kp (if ¬ (0 ≤ e ∧ e < 2) then -2 else if hb e = 0 then -5 else ss e 0)) pd at' od fi la pc H1 ∧ (∃ f2 : Int → Int, NwAt D y f2 H1 ∧ (0 ≤ e ∧ e < 2 ∧ hb e = 1 → ∀ j : Int, 0 ≤ j → j < 1405 → f2 j = ss e j) ∧ (¬ (0 ≤ e ∧ e < 2 ∧ hb e = 1) → f2 = f)) ∧ PaAt D y (hsN kp (if ¬ (0 ≤ e ∧ e < 2) then -2 else if hb e = 0 then -5 else ss e 0)) (hsS kp (if ¬ (0 ≤ e ∧ e < 2) then -2 else if hb e = 0 then -5 else ss e 0) st f) H1 ∧ SvAt D y hb ss H1 ∧ Fr (Iv y (y + 3)) 0 H H1)) := by
  refine Ct.of (own := RX9) (cc := cX9_restore) (maxL := 2) (by decide +kernel) rfl (Nat.le_of_ble_eq_true rfl) rfl ?_
  intro K H X R hH hnm hP
  show G K 0 0 H 0 [(0, .ref y), (1, .int (J e))] []
  obtain ⟨hO, hNw, hPa, hSv⟩ := hP
  obtain ⟨hHb, hb01, -⟩ := id hSv
  have hnum := hI.nums
  refine g_iload_n (pc := 0) (pl := 1) X dX9_restore_0 rfl ?_
  refine g_iconst (pc := 1) X dX9_restore_1 ?_
  refine g_iconst (pc := 2) X dX9_restore_2 ?_
  refine gJi (pc := 3) (n2 := 0) (k2 := 0) X cs_X9_restore_41 (c_X9_in (zl K) D base e 0 1 (by omega) (by omega) (by omega)) rfl (by have := hO.lt; omega) trivial rfl ⟨Nat.le_of_ble_eq_true rfl, Nat.le_of_ble_eq_true rfl⟩ dX9_restore_3 (Nat.le_of_ble_eq_true rfl) rfl rfl (fun v3 H1 hp3 hs3 => ?_)
  obtain ⟨rfl, rfl⟩ := hp3
  refine g_if_ne (pc := 6) X 12 dX9_restore_6 (by decide) (zbr _) (fun c6 => ?_) (fun c6 => ?_)
  · skip
    replace c6 := zb1 c6
    refine g_aload_n (pc := 12) (pl := 0) X dX9_restore_12 rfl ?_
    refine g_getf (pc := 13) X zF_X9_restore_19 hO rfl dX9_restore_13 ?_
    refine g_iload_n (pc := 16) (pl := 1) X dX9_restore_16 rfl ?_
    refine g_baload (pc := 17) X hHb (by omega) (by omega) (by omega) dX9_restore_17 ?_
    refine g_if_ne (pc := 18) X 24 dX9_restore_18 (by decide) (by have := hb01 e (by omega) (by omega); omega) (fun c18 => ?_) (fun c18 => ?_)
    · skip
      refine g_aload_n (pc := 24) (pl := 0) X dX9_restore_24 rfl ?_
      obtain ⟨ps, hPs, hst⟩ := id hPa
      refine gVv (pc := 25) (n2 := 0) (k2 := 0) X cs_X9_restore_57 (c_X9_records (zl K) D base y kp pd at' od fi la pc f ps hq hkp) rfl hO (by omega) ⟨hO, hNw, hPs⟩ rfl ⟨Nat.le_of_ble_eq_true rfl, Nat.le_of_ble_eq_true rfl⟩ dX9_restore_25 (Nat.le_of_ble_eq_true rfl) rfl rfl (fun H1 hp25 hs25 => ?_)
      obtain ⟨hOn, hNwn, ⟨ps2, hPs2, hr2⟩, hfr⟩ := hp25
      replace hHb := hHb.fr hfr (by omega)
      replace hSv := hSv.fr hfr (by omega)
      have hPan : PaAt D y (hpN kp) (hpS kp st f) H1 := ⟨ps2, hPs2, hpS_rec hkp hst hr2⟩
      clear hO hNw hPa hPs
      have hO := hOn
      have hNw := hNwn
      have hPa := hPan
      clear hOn hNwn hPan hPs2
      refine g_aload_n (pc := 28) (pl := 0) X dX9_restore_28 rfl ?_
      refine g_getf (pc := 29) X zF_X9_restore_16 hO rfl dX9_restore_29 ?_
      refine g_sipush (pc := 32) X dX9_restore_32 (by decide +kernel) ?_
      refine g_iload_n (pc := 35) (pl := 1) X dX9_restore_35 rfl ?_
      refine g_imul (pc := 36) X dX9_restore_36 ?_
      refine g_aload_n (pc := 37) (pl := 0) X dX9_restore_37 rfl ?_
      refine g_getf (pc := 38) X zF_X9_restore_7 hO rfl dX9_restore_38 ?_
      refine g_iconst (pc := 41) X dX9_restore_41 ?_
      obtain ⟨-, -, ps3, hSl3, hs3⟩ := id hSv
      have hb1 : hb e = 1 := by have := hb01 e (by omega) (by omega); omega
      have hf0 := hs3 e 0 (by omega) (by omega) hb1 (by omega) (by omega)
      have hsr0 := hsr e (by omega) (by omega) hb1
      refine gJv (pc := 42) (n2 := 0) (k2 := 0) X cs_X9_restore_53 (c_X9_lays (zl K) D base (y + 3) (y + 1) 2810 1405 (1405 * e) 0 ps3 f (by omega) (by omega) (by omega) (by omega)) rfl (by have := hO.lt; omega) ⟨hSl3, hNw⟩ rfl ⟨Nat.le_of_ble_eq_true rfl, Nat.le_of_ble_eq_true rfl⟩ dX9_restore_42 (Nat.le_of_ble_eq_true rfl) rfl rfl (fun H2 hp42 hs42 => ?_)
      obtain ⟨hIn, hfl⟩ := hp42
      replace hO := hO.fr hfl (by omega)
      replace hPa := hPa.fr hfl (by omega)
      replace hSv := hSv.fr hfl (by omega)
      clear hNw
      have hNw := hIn
      refine g_aload_n (pc := 45) (pl := 0) X dX9_restore_45 rfl ?_
      refine g_getf (pc := 46) X zF_X9_restore_7 hO rfl dX9_restore_46 ?_
      refine g_iconst (pc := 49) X dX9_restore_49 ?_
      refine g_iaload (pc := 50) X hNw (by omega) (by omega) (by omega) dX9_restore_50 ?_
      rw [show (lyF ps3 (1405 * e) f 0) 0 = ss e 0 from ((if_pos (by omega)).trans ((congrArg ps3 (by omega)).trans hf0))]
      refine g_iret (pc := 51) X R hH dX9_restore_51 ?_
      have er : (if ¬ (0 ≤ e ∧ e < 2) then -2 else if hb e = 0 then -5 else ss e 0) = ss e 0 := (if_neg (by omega)).trans (if_neg (by omega))
      rw [er]
      rw [show hsN kp (ss e 0) = hpN kp from if_neg (by omega), show hsS kp (ss e 0) st f = hpS kp st f from if_neg (by omega)]
      exact ⟨rfl, hO, ⟨_, hNw, fun _ j j0 j1 => (if_pos (by omega)).trans ((congrArg ps3 (by omega)).trans (hs3 e j (by omega) (by omega) hb1 j0 j1)), fun z => absurd ⟨by omega, by omega, hb1⟩ z⟩, hPa, hSv, (Fr.trans (hfr.wide (by omega) (by omega)) (hfl.wide (by omega) (by omega)))⟩
    · skip
      refine g_bipush (pc := 21) X dX9_restore_21 (by decide +kernel) ?_
      refine g_iret (pc := 23) X R hH dX9_restore_23 ?_
      have er : (if ¬ (0 ≤ e ∧ e < 2) then -2 else if hb e = 0 then -5 else ss e 0) = -5 := (if_neg (by omega)).trans (if_pos (by omega))
      rw [er]
      rw [show hsN kp (-5) = kp from if_pos (by omega), show hsS kp (-5) st f = st from if_pos (by omega)]
      exact ⟨rfl, hO, ⟨f, hNw, fun z => absurd z.2.2 (by omega), fun _ => rfl⟩, hPa, hSv, Fr.refl _ _⟩
  · skip
    replace c6 := zb0 c6
    refine g_bipush (pc := 9) X dX9_restore_9 (by decide +kernel) ?_
    refine g_iret (pc := 11) X R hH dX9_restore_11 ?_
    have er : (if ¬ (0 ≤ e ∧ e < 2) then -2 else if hb e = 0 then -5 else ss e 0) = -2 := if_pos (by omega)
    rw [er]
    rw [show hsN kp (-2) = kp from if_pos (by omega), show hsS kp (-2) st f = st from if_pos (by omega)]
    exact ⟨rfl, hO, ⟨f, hNw, fun z => absurd z.2.1 (by omega), fun _ => rfl⟩, hPa, hSv, Fr.refl _ _⟩

abbrev rm_X0_init : Room := { frames := 1, cells := 1, slots := 7, locals := 12 }
theorem zW_X0_init_11 : zW RX0 wsX0_init 0 0 11 true (tyX0 0) := ⟨RX0, TX0, 2, tyX0, rfl, by decide +kernel, by decide, by decide +kernel, tyX0_ok, nmX0, rfl, rfl, rfl⟩
set_option maxRecDepth 100000 in
theorem c_X0_init (l : Launch) (D : zD) (base : Nat) (h : Nat) (hq : base ≤ h) : Ct l yX0_init wsX0_init rm_X0_init D base [.ref h] (fun H => Ob D h 0 [.null, .int (J 0)] H ∧ H.size = h + 1) (PV (fun H H1 => Ob D h 0 [.ref (h + 1), .int (J 0)] H1 ∧ Ra D (h + 1) 3 7 (fun _ => none) H1 ∧ Fr (Iv h (h + 2)) 1 H H1)) := by
  refine Ct.of (own := RX0) (cc := cX0_init) (maxL := 1) (by decide +kernel) rfl (Nat.le_of_ble_eq_true rfl) rfl ?_
  intro K H X R hH hnm hP
  show G K 0 0 H 0 [(0, .ref h)] []
  obtain ⟨hO, hsz⟩ := hP
  refine g_aload_n (pc := 0) (pl := 0) X dX0_init_0 rfl ?_
  refine g_objInit (pc := 1) X (by decide +kernel) (by decide +kernel) (by decide +kernel) (by decide) (Nat.le_of_ble_eq_true rfl) dX0_init_1 ?_
  refine g_aload_n (pc := 4) (pl := 0) X dX0_init_4 rfl ?_
  refine g_bipush (pc := 5) X dX0_init_5 (by decide +kernel) ?_
  refine g_anewarr (pc := 7) (N := 7) (t := 3) (C := "AnchoredNotes$Page") (n2 := 1) (k2 := 7) X (by decide) (by decide +kernel) rfl (by decide) (Nat.le_of_ble_eq_true rfl) (Nat.le_of_ble_eq_true rfl) dX0_init_7 rfl rfl (fun H1 hz1 hNew hon1 => ?_)
  rw [hsz] at hNew ⊢
  have hRa := hNew
  clear hNew
  have hf1 : Fr (Iv 0 0) 1 H H1 := Fr.new hz1 hon1
  replace hsz : H1.size = h + 2 := by have e := hf1.1; omega
  replace hO := hO.fr hf1 (by omega)
  refine g_putF (pc := 10) X zW_X0_init_11 hnm rfl hO (by omega) rfl rfl rfl dX0_init_10 (fun H2 hOn hf2 => ?_)
  replace hsz : H2.size = h + 2 := by have e := hf2.1; omega
  replace hRa := hRa.fr hf2 (by omega)
  replace hO : Ob D h 0 [.ref (h + 1), .int (J 0)] H2 := hOn
  clear hOn
  refine g_vret (pc := 13) X R hH dX0_init_13 ?_
  exact ⟨hO, hRa, (Fr.trans hf1.any (hf2.wide (by omega) (by omega)))⟩

abbrev rm_X0_forgetOldest : Room := { frames := 0, cells := 0, slots := 0, locals := 0 }
theorem zF_X0_forgetOldest_11 : zF RX0 wsX0_forgetOldest 0 0 11 := ⟨RX0, TX0, 2, rfl, by decide +kernel, by decide, by decide +kernel⟩
set_option maxRecDepth 100000 in
theorem c_X0_forgetOldest (l : Launch) (D : zD) (base : Nat) (h lo : Nat) (m : Int) (sa : Int → Option Nat) (hq : base ≤ h) (hall : ∀ i : Int, 0 ≤ i → i < 7 → ¬ sa i = none) (hlo : h + 2 ≤ lo) : Ct l yX0_forgetOldest wsX0_forgetOldest rm_X0_forgetOldest D base [.ref h] (fun H => Ob D h 0 [.ref (h + 1), .int (J m)] H ∧ Ra D (h + 1) 3 7 sa H ∧ PgsOk D lo 7 sa H) (PV (fun H H1 => Ra D (h + 1) 3 7 (rotS sa) H1 ∧ Fr (Iv (h + 1) (h + 2)) 0 H H1)) := by
  refine Ct.of (own := RX0) (cc := cX0_forgetOldest) (maxL := 3) (by decide +kernel) rfl (Nat.le_of_ble_eq_true rfl) rfl ?_
  intro K H X R hH hnm hP
  show G K 0 0 H 0 [(0, .ref h)] []
  obtain ⟨hO, hRa, hPs⟩ := hP
  obtain ⟨a0, ha0⟩ := Ra.some_ref (hall 0 (by omega) (by omega))
  refine g_aload_n (pc := 0) (pl := 0) X dX0_forgetOldest_0 rfl ?_
  refine g_getf (pc := 1) X zF_X0_forgetOldest_11 hO rfl dX0_forgetOldest_1 ?_
  refine g_iconst (pc := 4) X dX0_forgetOldest_4 ?_
  refine g_aaload (pc := 5) (v := .ref a0) X hRa (by decide) (by omega) (by omega) (by omega) (by rw [ha0]; rfl) dX0_forgetOldest_5 ?_
  refine g_astore_n (pc := 6) (lv' := [(1, _), (0, _)]) X dX0_forgetOldest_6 (by decide) rfl ?_
  refine g_iconst (pc := 7) X dX0_forgetOldest_7 ?_
  refine g_istore_n (pc := 8) (lv' := [(2, _), (1, _), (0, _)]) X dX0_forgetOldest_8 (by decide) rfl ?_
  have hL9 : ∀ (fu : Nat) (x : Int) (Hx : Heap), (6 - x).toNat < fu → (0 ≤ x ∧ x ≤ 6) → (Ob D h 0 [.ref (h + 1), .int (J m)] Hx) → (Ra D (h + 1) 3 7 (fun i => if i < x then sa (i + 1) else sa i) Hx) → (PgsOk D lo 7 sa Hx) → (Fr (Iv (h + 1) (h + 2)) 0 H Hx) → G K 0 0 Hx 9 [(0, .ref h), (1, .ref a0), (2, .int (J x))] [] := by
    intro fu
    induction fu with
    | zero => intro x Hx hm; exact absurd hm (Nat.not_lt_zero _)
    | succ fu ih9 =>
      intro x Hx hm h1 hO hRa hPs h3
      refine g_iload_n (pc := 9) (pl := 2) X dX0_forgetOldest_9 rfl ?_
      refine g_bipush (pc := 10) X dX0_forgetOldest_10 (by decide +kernel) ?_
      refine g_icmp_ge (pc := 12) X 35 dX0_forgetOldest_12 (by decide) (by omega) (by omega) (fun c12 => ?_) (fun c12 => ?_)
      · skip
        refine g_aload_n (pc := 35) (pl := 0) X dX0_forgetOldest_35 rfl ?_
        refine g_getf (pc := 36) X zF_X0_forgetOldest_11 hO rfl dX0_forgetOldest_36 ?_
        refine g_bipush (pc := 39) X dX0_forgetOldest_39 (by decide +kernel) ?_
        refine g_aload_n (pc := 41) (pl := 1) X dX0_forgetOldest_41 rfl ?_
        have ex6 : x = 6 := by omega
        obtain ⟨-, -, gg, hPg⟩ := hPs.1 0 a0 (by omega) (by omega) ha0
        obtain ⟨hOa, -⟩ := id hPg
        refine g_aastore (pc := 42) X hRa (by decide) hOa (by omega) (by omega) (by omega) (by omega) dX0_forgetOldest_42 (fun H1 hRan hf1 => ?_)
        replace hO := hO.fr hf1 (by omega)
        replace hPs := hPs.fr hf1 (by omega)
        replace hRa := hRan
        clear hRan
        refine g_vret (pc := 43) X R hH dX0_forgetOldest_43 ?_
        exact ⟨hRa.congr (fun i h0 h1 => by simp only [up, rotS]; by_cases c : i = 6; (rw [if_pos c, if_neg (by omega), if_pos c, ha0]); (rw [if_neg c, if_pos (by omega), if_pos (by omega)])), (Fr.trans (h3.wide (by omega) (by omega)) (hf1.wide (by omega) (by omega)))⟩
      · skip
        refine g_aload_n (pc := 15) (pl := 0) X dX0_forgetOldest_15 rfl ?_
        refine g_getf (pc := 16) X zF_X0_forgetOldest_11 hO rfl dX0_forgetOldest_16 ?_
        refine g_iload_n (pc := 19) (pl := 2) X dX0_forgetOldest_19 rfl ?_
        refine g_aload_n (pc := 20) (pl := 0) X dX0_forgetOldest_20 rfl ?_
        refine g_getf (pc := 21) X zF_X0_forgetOldest_11 hO rfl dX0_forgetOldest_21 ?_
        refine g_iload_n (pc := 24) (pl := 2) X dX0_forgetOldest_24 rfl ?_
        refine g_iconst (pc := 25) X dX0_forgetOldest_25 ?_
        refine g_iadd (pc := 26) X dX0_forgetOldest_26 ?_
        obtain ⟨a1, ha1⟩ := Ra.some_ref (hall (x + 1) (by omega) (by omega))
        obtain ⟨-, -, gg, hPg⟩ := hPs.1 (x + 1) a1 (by omega) (by omega) ha1
        obtain ⟨hOa, -⟩ := id hPg
        refine g_aaload (pc := 27) (v := .ref a1) X hRa (by decide) (by omega) (by omega) (by omega) (by show va_rf (if x + 1 < x then sa (x + 1 + 1) else sa (x + 1)) = _; rw [if_neg (by omega), ha1]; rfl) dX0_forgetOldest_27 ?_
        refine g_aastore (pc := 28) X hRa (by decide) hOa (by omega) (by omega) (by omega) (by omega) dX0_forgetOldest_28 (fun H1 hRan hf1 => ?_)
        replace hO := hO.fr hf1 (by omega)
        replace hPs := hPs.fr hf1 (by omega)
        replace hRa := hRan
        clear hRan
        refine g_iinc (pc := 29) (pl := 2) (x := x) (lv' := [(2, _), (0, _), (1, _)]) X dX0_forgetOldest_29 rfl (by decide) rfl ?_
        refine g_goto (pc := 32) X 9 dX0_forgetOldest_32 (by decide) ?_
        refine G.pick [1, 2, 0] (lv' := [(0, _), (1, _), (2, _)]) rfl ?_
        exact ih9 (x + 1) H1 (by omega) (by omega) hO (hRa.congr (fun i h0 h1 => by simp only [up]; by_cases c : i = x; (rw [if_pos c, if_pos (by omega), c, ha1]); (rw [if_neg c]; by_cases c2 : i < x; (rw [if_pos c2, if_pos (by omega)]); (rw [if_neg c2, if_neg (by omega)])))) hPs (Fr.trans (h3.wide (by omega) (by omega)) (hf1.wide (by omega) (by omega)))
  refine G.pick [2, 1, 0] (lv' := [(0, _), (1, _), (2, _)]) rfl ?_
  exact hL9 _ 0 H (Nat.lt_succ_self _) (by omega) hO (hRa.congr (fun i h0 h1 => (if_neg (by omega)).symm)) hPs (Fr.refl _ _)

abbrev rm_X0_confirm : Room := { frames := 1, cells := 0, slots := 0, locals := 22 }
theorem zF_X0_confirm_17 : zF RX0 wsX0_confirm 0 1 17 := ⟨RX0, TX0, 2, rfl, by decide +kernel, by decide, by decide +kernel⟩
theorem cs_X0_confirm_26 : zCV RX0 wsX0_confirm 26 0 yX0_forgetOldest wsX0_forgetOldest cX0_forgetOldest 3 none rm_X0_confirm rm_X0_forgetOldest 0 := ⟨_, _, gX0_confirm_X0_forgetOldest, rfl, ⟨by decide +kernel, by decide +kernel, by decide +kernel⟩, ⟨Nat.le_of_ble_eq_true rfl, Nat.le_of_ble_eq_true rfl⟩, rfl, rfl⟩
theorem zW_X0_confirm_17 : zW RX0 wsX0_confirm 0 1 17 false (tyX0 1) := ⟨RX0, TX0, 2, tyX0, rfl, by decide +kernel, by decide, by decide +kernel, tyX0_ok, nmX0, rfl, rfl, rfl⟩
set_option maxRecDepth 100000 in
theorem c_X0_confirm (l : Launch) (D : zD) (base : Nat) (h lo : Nat) (m v : Int) (sa : Int → Option Nat) (st : Int → Int → Int) (a : Nat) (g : Int → Int) (hq : base ≤ h) (hv : rg v) (hlo : h + 2 ≤ lo) (ha : sa m = some a) : Ct l yX0_confirm wsX0_confirm rm_X0_confirm D base [.ref h, .int (J v)] (fun H => HsAt D h lo sa m st H ∧ PageAt D a g H) (PI (fun H r H1 => v = r ∧ (v < 0 → H = H1) ∧ (¬ v < 0 → ∃ sa2 : Int → Option Nat, HsAt D h lo sa2 (hpN m) (hpS m st g) H1 ∧ (∀ (i : Int) (b : Nat), 0 ≤ i → i < 7 → sa2 i = some b → ∃ j : Int, 0 ≤ j ∧ j < 7 ∧ sa j = some b)) ∧ Fr (Iv h (h + 2)) 0 H H1)) := by
  refine Ct.of (own := RX0) (cc := cX0_confirm) (maxL := 2) (by decide +kernel) rfl (Nat.le_of_ble_eq_true rfl) rfl ?_
  intro K H X R hH hnm hP
  show G K 0 0 H 0 [(0, .ref h), (1, .int (J v))] []
  obtain ⟨hP, hPa⟩ := hP
  obtain ⟨hO, hRa, hPs, hSt, hm0, hm6⟩ := hP
  refine g_iload_n (pc := 0) (pl := 1) X dX0_confirm_0 rfl ?_
  refine g_if_lt (pc := 1) X 30 dX0_confirm_1 (by decide) (by omega) (fun c1 => ?_) (fun c1 => ?_)
  · skip
    refine g_iload_n (pc := 30) (pl := 1) X dX0_confirm_30 rfl ?_
    refine g_iret (pc := 31) X R hH dX0_confirm_31 ?_
    refine ⟨rfl, fun _ => rfl, fun z => absurd c1 (by omega), Fr.refl _ _⟩
  · skip
    refine g_aload_n (pc := 4) (pl := 0) X dX0_confirm_4 rfl ?_
    refine g_getf (pc := 5) X zF_X0_confirm_17 hO rfl dX0_confirm_5 ?_
    refine g_bipush (pc := 8) X dX0_confirm_8 (by decide +kernel) ?_
    refine g_icmp_ge (pc := 10) X 26 dX0_confirm_10 (by decide) (by omega) (by omega) (fun c10 => ?_) (fun c10 => ?_)
    · skip
      refine g_aload_n (pc := 26) (pl := 0) X dX0_confirm_26 rfl ?_
      have em : m = 6 := by omega
      have hall : ∀ i : Int, 0 ≤ i → i < 7 → ¬ sa i = none := fun i h0 h1 z => by by_cases c : i = 6; (rw [c, ← em, ha] at z; cases z); (obtain ⟨b, hb, -⟩ := hSt i h0 (by omega); rw [hb] at z; cases z)
      refine gVv (pc := 27) (n2 := 0) (k2 := 0) X cs_X0_confirm_26 (c_X0_forgetOldest (zl K) D base h lo m sa hq hall hlo) rfl hO (by omega) ⟨hO, hRa, hPs⟩ rfl ⟨Nat.le_of_ble_eq_true rfl, Nat.le_of_ble_eq_true rfl⟩ dX0_confirm_27 (Nat.le_of_ble_eq_true rfl) rfl rfl (fun H1 hp27 hs27 => ?_)
      obtain ⟨hRn, hfa⟩ := hp27
      replace hO := hO.fr hfa (by omega)
      replace hPs := hPs.fr hfa (by omega)
      refine g_iload_n (pc := 30) (pl := 1) X dX0_confirm_30 rfl ?_
      refine g_iret (pc := 31) X R hH dX0_confirm_31 ?_
      have k3 := hPs.1 m a (by omega) (by omega) ha
      refine ⟨rfl, fun z => absurd z (by omega), fun _ => ⟨rotS sa, ⟨?_, hRn, hPs.rot, fun i h0 h1 => ?_, by unfold hpN; split <;> omega, by unfold hpN; split <;> omega⟩, fun i b h0 h1 h2 => ?_⟩, (hfa.wide (by omega) (by omega))⟩
      · rw [show hpN m = m from if_neg (by omega)]; exact hO
      · rw [show hpN m = m from if_neg (by omega)] at h1
        rw [show hpS m st g = fun i => if i = 5 then g else st (i + 1) from if_neg (by omega)]
        by_cases c : i = 5
        · exact ⟨a, by unfold rotS; rw [if_pos (by omega), show i + 1 = m by omega]; exact ha, by simp only [if_pos c]; exact hPa.fr hfa (by omega)⟩
        · obtain ⟨b, hb, hpb⟩ := hSt (i + 1) (by omega) (by omega)
          have kb := hPs.1 (i + 1) b (by omega) (by omega) hb
          exact ⟨b, by unfold rotS; rw [if_pos (by omega)]; exact hb, by simp only [if_neg c]; exact hpb.fr hfa (by omega)⟩
      · unfold rotS at h2
        by_cases c : i < 6
        · rw [if_pos c] at h2; exact ⟨i + 1, by omega, by omega, h2⟩
        · rw [if_neg c, if_pos (by omega)] at h2; exact ⟨0, by omega, by omega, h2⟩
    · skip
      refine g_aload_n (pc := 13) (pl := 0) X dX0_confirm_13 rfl ?_
      refine g_dup (pc := 14) X dX0_confirm_14 rfl ?_
      refine g_getf (pc := 15) X zF_X0_confirm_17 hO rfl dX0_confirm_15 ?_
      refine g_iconst (pc := 18) X dX0_confirm_18 ?_
      refine g_iadd (pc := 19) X dX0_confirm_19 ?_
      refine g_putf (pc := 20) X zW_X0_confirm_17 hO (by omega) rfl rfl rfl dX0_confirm_20 (fun H1 hOn hf1 => ?_)
      replace hRa := hRa.fr hf1 (by omega)
      replace hPs := hPs.fr hf1 (by omega)
      replace hO : Ob D h 0 [.ref (h + 1), .int (J (m + 1))] H1 := hOn
      clear hOn
      refine g_goto (pc := 23) X 30 dX0_confirm_23 (by decide) ?_
      refine g_iload_n (pc := 30) (pl := 1) X dX0_confirm_30 rfl ?_
      refine g_iret (pc := 31) X R hH dX0_confirm_31 ?_
      have k3 := hPs.1 m a (by omega) (by omega) ha
      refine ⟨rfl, fun z => absurd z (by omega), fun _ => ⟨sa, ⟨?_, hRa, hPs, fun i h0 h1 => ?_, by unfold hpN; split <;> omega, by unfold hpN; split <;> omega⟩, fun i b h0 h1 h2 => ⟨i, h0, h1, h2⟩⟩, (hf1.wide (by omega) (by omega))⟩
      · rw [show hpN m = m + 1 from if_pos (by omega)]; exact hO
      · rw [show hpN m = m + 1 from if_pos (by omega)] at h1
        rw [show hpS m st g = fun i => if i = m then g else st i from if_pos (by omega)]
        by_cases c : i = m
        · exact ⟨a, by rw [c]; exact ha, by simp only [if_pos c]; exact hPa.fr hf1 (by omega)⟩
        · obtain ⟨b, hb, hpb⟩ := hSt i (by omega) (by omega)
          have kb := hPs.1 i b (by omega) (by omega) hb
          exact ⟨b, hb, by simp only [if_neg c]; exact hpb.fr hf1 (by omega)⟩

abbrev rm_X0_keep : Room := { frames := 4, cells := 121, slots := 4272, locals := 126 }
theorem zF_X0_keep_17 : zF RX0 wsX0_keep 0 1 17 := ⟨RX0, TX0, 2, rfl, by decide +kernel, by decide, by decide +kernel⟩
theorem zF_X0_keep_11 : zF RX0 wsX0_keep 0 0 11 := ⟨RX0, TX0, 2, rfl, by decide +kernel, by decide, by decide +kernel⟩
theorem cs_X0_keep_21 : zCI RX0 wsX0_keep 21 yX4_init wsX4_init cX4_init 2 rm_X0_keep rm_X4_init 0 := ⟨_, gX0_keep_X4_init, Or.inl (by decide +kernel), by decide +kernel, by decide +kernel, rfl, rfl, ⟨by decide +kernel, by decide +kernel, by decide +kernel⟩, ⟨Nat.le_of_ble_eq_true rfl, Nat.le_of_ble_eq_true rfl⟩⟩
theorem cs_X0_keep_22 : zCV RX0 wsX0_keep 22 4 yX4_copyFrom wsX4_copyFrom cX4_copyFrom 5 none rm_X0_keep rm_X4_copyFrom 1 := ⟨_, _, gX0_keep_X4_copyFrom, rfl, ⟨by decide +kernel, by decide +kernel, by decide +kernel⟩, ⟨Nat.le_of_ble_eq_true rfl, Nat.le_of_ble_eq_true rfl⟩, rfl, rfl⟩
set_option maxRecDepth 100000 in
theorem c_X0_keep (l : Launch) (D : zD) (base : Nat) (h lo q : Nat) (m : Int) (sa : Int → Option Nat) (st : Int → Int → Int) (g : Int → Int) (hq : base ≤ h) (hqb : base ≤ q) (hlo : h + 2 ≤ lo ∧ q + 121 ≤ lo) (hhq : h + 2 ≤ q ∨ q + 121 ≤ h) : Ct l yX0_keep wsX0_keep rm_X0_keep D base [.ref h, .ref q] (fun H => HsAt D h lo sa m st H ∧ PageAt D q g H ∧ lo ≤ H.size) (PV (fun H H1 => ∃ (sa2 : Int → Option Nat) (a d : Nat) (Ha : Heap), (d = 0 ∨ d = 121) ∧ Fr (Iv h (h + 2)) d H Ha ∧ Fr (Iv a (a + 121)) 0 Ha H1 ∧ sa2 m = some a ∧ (∀ i : Int, ¬ i = m → sa2 i = sa i) ∧ (sa m = some a ∨ (sa m = none ∧ a = H.size)) ∧ HsAt D h lo sa2 m st H1 ∧ PageAt D a g H1 ∧ PageAt D q g H1)) := by
  refine Ct.of (own := RX0) (cc := cX0_keep) (maxL := 3) (by decide +kernel) rfl (Nat.le_of_ble_eq_true rfl) rfl ?_
  intro K H X R hH hnm hP
  show G K 0 0 H 0 [(0, .ref h), (1, .ref q)] []
  obtain ⟨hP, hPq, hls⟩ := hP
  have hHs := hP
  obtain ⟨hO, hRa, hPs, hSt, hm0, hm6⟩ := hP
  refine g_aload_n (pc := 0) (pl := 0) X dX0_keep_0 rfl ?_
  refine g_getf (pc := 1) X zF_X0_keep_17 hO rfl dX0_keep_1 ?_
  refine g_if_lt (pc := 4) X 19 dX0_keep_4 (by decide) (by omega) (fun c4 => ?_) (fun c4 => ?_)
  · skip
    omega
  · skip
    refine g_aload_n (pc := 7) (pl := 0) X dX0_keep_7 rfl ?_
    refine g_getf (pc := 8) X zF_X0_keep_17 hO rfl dX0_keep_8 ?_
    refine g_aload_n (pc := 11) (pl := 0) X dX0_keep_11 rfl ?_
    refine g_getf (pc := 12) X zF_X0_keep_11 hO rfl dX0_keep_12 ?_
    refine g_alenR (pc := 15) X hRa (by decide) dX0_keep_15 ?_
    refine g_icmp_lt (pc := 16) X 20 dX0_keep_16 (by decide) (by omega) (by omega) (fun c16 => ?_) (fun c16 => ?_)
    · skip
      refine g_aload_n (pc := 20) (pl := 0) X dX0_keep_20 rfl ?_
      refine g_getf (pc := 21) X zF_X0_keep_11 hO rfl dX0_keep_21 ?_
      refine g_aload_n (pc := 24) (pl := 0) X dX0_keep_24 rfl ?_
      refine g_getf (pc := 25) X zF_X0_keep_17 hO rfl dX0_keep_25 ?_
      by_cases hn : sa m = none
      · skip
        refine g_aaload (pc := 28) (v := .null) X hRa (by decide) (by omega) (by omega) (by omega) (by rw [hn]; rfl) dX0_keep_28 ?_
        refine g_ifnonnullN (pc := 29) X dX0_keep_29 ?_
        refine g_aload_n (pc := 32) (pl := 0) X dX0_keep_32 rfl ?_
        refine g_getf (pc := 33) X zF_X0_keep_11 hO rfl dX0_keep_33 ?_
        refine g_aload_n (pc := 36) (pl := 0) X dX0_keep_36 rfl ?_
        refine g_getf (pc := 37) X zF_X0_keep_17 hO rfl dX0_keep_37 ?_
        obtain ⟨sz, hz0⟩ : ∃ z, H.size = z := ⟨_, rfl⟩
        have hsz : H.size = sz + 0 := hz0
        refine g_new (pc := 40) (ci := 4) (C := RX4) (T := TX4) (N := 6) (tys := tyX4) (fs := [.null, .null, .null, .null, .int (J 0), .null]) (n2 := 1) (k2 := 6) X rfl (by decide +kernel) tyX4_ok (by decide +kernel) (by decide +kernel) (by decide +kernel) (by decide +kernel) (Nat.le_of_ble_eq_true rfl) (Nat.le_of_ble_eq_true rfl) dX0_keep_40 rfl rfl (fun H1 hz1 hNew hon1 => ?_)
        rw [hsz] at hNew ⊢
        have hPo := hNew
        clear hNew
        have hf1 : Fr (Iv 0 0) 1 H H1 := Fr.new hz1 hon1
        replace hsz : H1.size = sz + 1 := by have e := hf1.1; omega
        replace hO := hO.fr hf1 (by omega)
        replace hRa := hRa.fr hf1 (by omega)
        replace hPq := hPq.fr hf1 (by omega)
        refine g_dup (pc := 43) X dX0_keep_43 rfl ?_
        refine gIv (pc := 44) (n2 := 121) (k2 := 4272) X cs_X0_keep_21 (c_X4_init (zl K) D base (sz + 0) (by omega)) rfl (by omega) ⟨hPo, hsz⟩ rfl ⟨(Nat.le_of_ble_eq_true rfl), (Nat.le_of_ble_eq_true rfl)⟩ dX0_keep_44 (Nat.le_of_ble_eq_true rfl) rfl rfl (fun H2 hp44 hs44 => ?_)
        obtain ⟨hPn, hfd⟩ := hp44
        replace hsz : H2.size = sz + 121 := by have e := hfd.1; omega
        replace hO := hO.fr hfd (by omega)
        replace hRa := hRa.fr hfd (by omega)
        replace hPq := hPq.fr hfd (by omega)
        obtain ⟨hPO, -⟩ := id hPn
        refine g_aastore (pc := 47) X hRa (by decide) hPO (by omega) (by omega) (by omega) (by omega) dX0_keep_47 (fun H3 hRan hf3 => ?_)
        replace hsz : H3.size = sz + 121 := by have e := hf3.1; omega
        replace hO := hO.fr hf3 (by omega)
        replace hPq := hPq.fr hf3 (by omega)
        replace hPn := hPn.fr hf3 (by omega)
        replace hRa := hRan
        clear hRan
        refine g_aload_n (pc := 48) (pl := 0) X dX0_keep_48 rfl ?_
        refine g_getf (pc := 49) X zF_X0_keep_11 hO rfl dX0_keep_49 ?_
        refine g_aload_n (pc := 52) (pl := 0) X dX0_keep_52 rfl ?_
        refine g_getf (pc := 53) X zF_X0_keep_17 hO rfl dX0_keep_53 ?_
        refine g_aaload (pc := 56) (v := .ref (sz + 0)) X hRa (by decide) (by omega) (by omega) (by omega) (by show va_rf (up sa m (some (sz + 0)) m) = _; rw [show up sa m (some (sz + 0)) m = some (sz + 0) from if_pos rfl]; rfl) dX0_keep_56 ?_
        refine g_astore_n (pc := 57) (lv' := [(2, _), (0, _), (1, _)]) X dX0_keep_57 (by decide) rfl ?_
        refine g_aload_n (pc := 58) (pl := 0) X dX0_keep_58 rfl ?_
        refine g_aload_n (pc := 59) (pl := 2) X dX0_keep_59 rfl ?_
        obtain ⟨hOa, -⟩ := id hPn
        refine gVv (pc := 60) (n2 := 121) (k2 := 4272) X cs_X0_keep_22 (c_X4_copyFrom (zl K) D base (sz + 0) q g0 g (by omega) hqb (by omega)) rfl hOa (by omega) ⟨hPn, hPq⟩ rfl ⟨Nat.le_of_ble_eq_true rfl, Nat.le_of_ble_eq_true rfl⟩ dX0_keep_60 (Nat.le_of_ble_eq_true rfl) rfl rfl (fun H4 hp60 hs60 => ?_)
        obtain ⟨hPa, hfc⟩ := hp60
        replace hsz : H4.size = sz + 121 := by have e := hfc.1; omega
        replace hO := hO.fr hfc (by omega)
        replace hRa := hRa.fr hfc (by omega)
        replace hPq := hPq.fr hfc (by omega)
        refine g_vret (pc := 63) X R hH dX0_keep_63 ?_
        have hfx : Fr (Iv h (h + 2)) 121 H H3 := Fr.trans (Fr.newer (F := Iv h (h + 2)) hf1.any hfd (by omega)) (hf3.wide (by omega) (by omega))
        have hP3 : PgsOk D lo 7 (up sa m (some H.size)) H3 := hPs.add (by omega) hfx (by omega) hls (by have := hfx.1; omega) (by rw [hz0]; exact hPn)
        rw [hz0] at hP3
        have e2 : up sa m (some sz) m = some sz := if_pos rfl
        have e3 : ∀ i : Int, ¬ i = m → up sa m (some sz) i = sa i := fun i hne => if_neg hne
        exact ⟨up sa m (some sz), sz, 121, H3, Or.inr rfl, hfx, hfc, e2, e3, Or.inr ⟨hn, hz0.symm⟩, ⟨hO, hRa, hP3.one (by omega) e2 hfc hPa, fun i h0 h1 => (by obtain ⟨b, hb, hpb⟩ := hSt i h0 h1; have kb := hPs.1 i b h0 (by omega) hb; exact ⟨b, by rw [e3 i (by omega)]; exact hb, (hpb.fr hfx (by omega)).fr hfc (by omega)⟩), hm0, hm6⟩, hPa, hPq⟩
      · skip
        obtain ⟨a, ha⟩ := Ra.some_ref hn
        refine g_aaload (pc := 28) (v := .ref a) X hRa (by decide) (by omega) (by omega) (by omega) (by rw [ha]; rfl) dX0_keep_28 ?_
        refine g_ifnonnull (pc := 29) X 48 dX0_keep_29 (by decide) ?_
        refine g_aload_n (pc := 48) (pl := 0) X dX0_keep_48 rfl ?_
        refine g_getf (pc := 49) X zF_X0_keep_11 hO rfl dX0_keep_49 ?_
        refine g_aload_n (pc := 52) (pl := 0) X dX0_keep_52 rfl ?_
        refine g_getf (pc := 53) X zF_X0_keep_17 hO rfl dX0_keep_53 ?_
        refine g_aaload (pc := 56) (v := .ref a) X hRa (by decide) (by omega) (by omega) (by omega) (by rw [ha]; rfl) dX0_keep_56 ?_
        refine g_astore_n (pc := 57) (lv' := [(2, _), (0, _), (1, _)]) X dX0_keep_57 (by decide) rfl ?_
        refine g_aload_n (pc := 58) (pl := 0) X dX0_keep_58 rfl ?_
        refine g_aload_n (pc := 59) (pl := 2) X dX0_keep_59 rfl ?_
        obtain ⟨k1, k2, gg, hPa0⟩ := hPs.1 m a (by omega) (by omega) ha
        obtain ⟨hOa, -⟩ := id hPa0
        refine gVv (pc := 60) (n2 := 0) (k2 := 0) X cs_X0_keep_22 (c_X4_copyFrom (zl K) D base a q gg g (by omega) hqb (by omega)) rfl hOa (by omega) ⟨hPa0, hPq⟩ rfl ⟨Nat.le_of_ble_eq_true rfl, Nat.le_of_ble_eq_true rfl⟩ dX0_keep_60 (Nat.le_of_ble_eq_true rfl) rfl rfl (fun H1 hp60 hs60 => ?_)
        obtain ⟨hPa, hfc⟩ := hp60
        replace hO := hO.fr hfc (by omega)
        replace hRa := hRa.fr hfc (by omega)
        replace hPq := hPq.fr hfc (by omega)
        refine G.widen (n' := 121) (k' := 4272) (by omega) (by omega) ?_
        refine g_vret (pc := 63) X R hH dX0_keep_63 ?_
        exact ⟨sa, a, 0, H, Or.inl rfl, Fr.refl _ _, hfc, ha, fun _ _ => rfl, Or.inl ha, ⟨hO, hRa, hPs.one (by omega) ha hfc hPa, fun i h0 h1 => (by obtain ⟨b, hb, hpb⟩ := hSt i h0 h1; exact ⟨b, hb, hpb.fr hfc (by have := hPs.2 i m b a h0 (by omega) (by omega) (by omega) (by omega) hb ha; omega)⟩), hm0, hm6⟩, hPa, hPq⟩
    · skip
      omega

abbrev rm_X0_goBack : Room := { frames := 4, cells := 0, slots := 0, locals := 126 }
theorem zF_X0_goBack_17 : zF RX0 wsX0_goBack 0 1 17 := ⟨RX0, TX0, 2, rfl, by decide +kernel, by decide, by decide +kernel⟩
theorem zF_X0_goBack_11 : zF RX0 wsX0_goBack 0 0 11 := ⟨RX0, TX0, 2, rfl, by decide +kernel, by decide, by decide +kernel⟩
theorem cs_X0_goBack_22 : zCV RX0 wsX0_goBack 22 4 yX4_copyFrom wsX4_copyFrom cX4_copyFrom 5 none rm_X0_goBack rm_X4_copyFrom 1 := ⟨_, _, gX0_goBack_X4_copyFrom, rfl, ⟨by decide +kernel, by decide +kernel, by decide +kernel⟩, ⟨Nat.le_of_ble_eq_true rfl, Nat.le_of_ble_eq_true rfl⟩, rfl, rfl⟩
theorem zW_X0_goBack_17 : zW RX0 wsX0_goBack 0 1 17 false (tyX0 1) := ⟨RX0, TX0, 2, tyX0, rfl, by decide +kernel, by decide, by decide +kernel, tyX0_ok, nmX0, rfl, rfl, rfl⟩
set_option maxRecDepth 100000 in
theorem c_X0_goBack (l : Launch) (D : zD) (base : Nat) (h lo q : Nat) (m : Int) (sa : Int → Option Nat) (st : Int → Int → Int) (g : Int → Int) (hq : base ≤ h) (hqb : base ≤ q) (hlo : h + 2 ≤ lo ∧ q + 121 ≤ lo) (hhq : h + 2 ≤ q ∨ q + 121 ≤ h) (hbl : base ≤ lo) : Ct l yX0_goBack wsX0_goBack rm_X0_goBack D base [.ref h, .ref q] (fun H => HsAt D h lo sa m st H ∧ PageAt D q g H) (PI (fun H v H1 => (if 0 < m then 1 else 0) = v ∧ (m = 0 → H = H1) ∧ (0 < m → (∃ Ha : Heap, Fr (Iv q (q + 121)) 0 H Ha ∧ Fr (Iv h (h + 2)) 0 Ha H1) ∧ HsAt D h lo sa (m - 1) st H1 ∧ PageAt D q (st (m - 1)) H1))) := by
  refine Ct.of (own := RX0) (cc := cX0_goBack) (maxL := 4) (by decide +kernel) rfl (Nat.le_of_ble_eq_true rfl) rfl ?_
  intro K H X R hH hnm hP
  show G K 0 0 H 0 [(0, .ref h), (1, .ref q)] []
  obtain ⟨hP, hPq⟩ := hP
  have hHs := hP
  obtain ⟨hO, hRa, hPs, hSt, hm0, hm6⟩ := hP
  refine g_aload_n (pc := 0) (pl := 0) X dX0_goBack_0 rfl ?_
  refine g_getf (pc := 1) X zF_X0_goBack_17 hO rfl dX0_goBack_1 ?_
  refine g_iconst (pc := 4) X dX0_goBack_4 ?_
  refine g_isub (pc := 5) X dX0_goBack_5 ?_
  refine g_istore_n (pc := 6) (lv' := [(2, _), (0, _), (1, _)]) X dX0_goBack_6 (by decide) rfl ?_
  refine g_iload_n (pc := 7) (pl := 0) X dX0_goBack_7 rfl ?_
  refine g_if_lt (pc := 8) X 20 dX0_goBack_8 (by decide) (by omega) (fun c8 => ?_) (fun c8 => ?_)
  · skip
    refine g_iconst (pc := 20) X dX0_goBack_20 ?_
    refine g_zret (pc := 21) X R hH (by first | exact Or.inl rfl | exact Or.inr rfl | omega) dX0_goBack_21 ?_
    refine ⟨by rw [if_neg (by omega)], fun _ => rfl, fun z => by omega⟩
  · skip
    refine g_iload_n (pc := 11) (pl := 0) X dX0_goBack_11 rfl ?_
    refine g_aload_n (pc := 12) (pl := 1) X dX0_goBack_12 rfl ?_
    refine g_getf (pc := 13) X zF_X0_goBack_11 hO rfl dX0_goBack_13 ?_
    refine g_alenR (pc := 16) X hRa (by decide) dX0_goBack_16 ?_
    refine g_icmp_lt (pc := 17) X 22 dX0_goBack_17 (by decide) (by omega) (by omega) (fun c17 => ?_) (fun c17 => ?_)
    · skip
      refine g_aload_n (pc := 22) (pl := 1) X dX0_goBack_22 rfl ?_
      refine g_getf (pc := 23) X zF_X0_goBack_11 hO rfl dX0_goBack_23 ?_
      refine g_iload_n (pc := 26) (pl := 0) X dX0_goBack_26 rfl ?_
      obtain ⟨a, ha, hPa⟩ := hSt (m - 1) (by omega) (by omega)
      have kb := hPs.1 (m - 1) a (by omega) (by omega) ha
      obtain ⟨hOq, -⟩ := id hPq
      refine g_aaload (pc := 27) (v := .ref a) X hRa (by decide) (by omega) (by omega) (by omega) (by rw [ha]; rfl) dX0_goBack_27 ?_
      refine g_astore_n (pc := 28) (lv' := [(3, _), (2, _), (0, _), (1, _)]) X dX0_goBack_28 (by decide) rfl ?_
      refine g_aload_n (pc := 29) (pl := 0) X dX0_goBack_29 rfl ?_
      refine g_ifnonnull (pc := 30) X 35 dX0_goBack_30 (by decide) ?_
      refine g_aload_n (pc := 35) (pl := 3) X dX0_goBack_35 rfl ?_
      refine g_aload_n (pc := 36) (pl := 0) X dX0_goBack_36 rfl ?_
      refine gVv (pc := 37) (n2 := 0) (k2 := 0) X cs_X0_goBack_22 (c_X4_copyFrom (zl K) D base q a g (st (m - 1)) hqb (by omega) (by omega)) rfl hOq (by omega) ⟨hPq, hPa⟩ rfl ⟨Nat.le_of_ble_eq_true rfl, Nat.le_of_ble_eq_true rfl⟩ dX0_goBack_37 (Nat.le_of_ble_eq_true rfl) rfl rfl (fun H1 hp37 hs37 => ?_)
      obtain ⟨hPn, hfc⟩ := hp37
      have hH2 := hHs.fr hfc (by omega)
      replace hO := hO.fr hfc (by omega)
      replace hRa := hRa.fr hfc (by omega)
      replace hPs := hPs.fr hfc (by omega)
      refine g_aload_n (pc := 40) (pl := 2) X dX0_goBack_40 rfl ?_
      refine g_iload_n (pc := 41) (pl := 1) X dX0_goBack_41 rfl ?_
      refine g_putf (pc := 42) X zW_X0_goBack_17 hO (by omega) rfl rfl rfl dX0_goBack_42 (fun H2 hOn hf2 => ?_)
      replace hRa := hRa.fr hf2 (by omega)
      replace hPs := hPs.fr hf2 (by omega)
      replace hO : Ob D h 0 [.ref (h + 1), .int (J (m - 1))] H2 := hOn
      clear hOn
      refine g_iconst (pc := 45) X dX0_goBack_45 ?_
      refine g_zret (pc := 46) X R hH (by first | exact Or.inl rfl | exact Or.inr rfl | omega) dX0_goBack_46 ?_
      obtain ⟨-, hRx, hPx, hSx, -, -⟩ := hH2
      refine ⟨by rw [if_pos (by omega)], fun z => by omega, fun _ => ⟨⟨_, hfc, hf2.wide (by omega) (by omega)⟩, ⟨hO, hRx.fr hf2 (by omega), hPx.fr hf2 (by omega), fun i h0 h1 => ?_, by omega, by omega⟩, hPn.fr hf2 (by omega)⟩⟩
      obtain ⟨b, hb, hpb⟩ := hSx i h0 (by omega)
      have kb2 := hPx.1 i b h0 (by omega) hb
      exact ⟨b, hb, hpb.fr hf2 (by omega)⟩
    · skip
      omega


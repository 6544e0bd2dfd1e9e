abbrev rm_X9_leaders : Room := { frames := 0, cells := 0, slots := 0, locals := 0 }
theorem zF_X9_leaders_7 : zF RX9 wsX9_leaders 9 0 7 := ⟨RX9, TX9, 17, rfl, by decide +kernel, by decide, by decide +kernel⟩
theorem zF_X9_leaders_29 : zF RX9 wsX9_leaders 9 13 29 := ⟨RX9, TX9, 17, rfl, by decide +kernel, by decide, by decide +kernel⟩
theorem zF_X9_leaders_32 : zF RX9 wsX9_leaders 9 14 32 := ⟨RX9, TX9, 17, rfl, by decide +kernel, by decide, by decide +kernel⟩
set_option maxRecDepth 100000 in
theorem c_X9_leaders (l : Launch) (D : zD) (base : Nat) (y : Nat) (kp pd at' od fi la pc : Int) (f : Int → Int) (L W : Int → Int) (b : Int) (hq : base ≤ y) (hI : PInv f) (hL : ∀ i : Int, 0 ≤ i → i < f 1 → -6 ≤ L i ∧ L i ≤ 100) (hW : ∀ i : Int, 0 ≤ i → i < f 1 → 0 ≤ W i ∧ W i ≤ 100 ∨ L i = -6) (hLW : ∀ i : Int, 0 ≤ i → i < f 1 → ¬ L i = -6 → W i ≤ L i) (hb : b = 0 ∨ b = 1) : Ct l yX9_leaders wsX9_leaders rm_X9_leaders D base [.ref y, .int (J b)] (fun H => MoO D y kp pd at' od fi la pc H ∧ NwAt D y f H ∧ Ia D (y + 7) 16 L H ∧ Ia D (y + 8) 16 W H) (PI (fun H v H1 => H = H1 ∧ (if b = 0 then mxE L (fun i => L i - W i) (f 1).toNat else sumI (ldr L (fun i => L i - W i)) (f 1).toNat) = v)) := by
  refine Ct.of (own := RX9) (cc := cX9_leaders) (maxL := 6) (by decide +kernel) rfl (Nat.le_of_ble_eq_true rfl) rfl ?_
  intro K H X R hH hnm hP
  show G K 0 0 H 0 [(0, .ref y), (1, .int (J b))] []
  obtain ⟨hO, hNw, hLn, hOw⟩ := hP
  have hnum := hI.nums
  refine g_iconst (pc := 0) X dX9_leaders_0 ?_
  refine g_istore_n (pc := 1) (lv' := [(2, _), (0, _), (1, _)]) X dX9_leaders_1 (by decide) rfl ?_
  refine g_iconst (pc := 2) X dX9_leaders_2 ?_
  refine g_istore_n (pc := 3) (lv' := [(3, _), (2, _), (0, _), (1, _)]) X dX9_leaders_3 (by decide) rfl ?_
  refine g_iconst (pc := 4) X dX9_leaders_4 ?_
  refine g_istore (pc := 5) (lv' := [(4, _), (3, _), (2, _), (0, _), (1, _)]) X dX9_leaders_5 (by decide) rfl ?_
  have hL7 : ∀ (fu : Nat) (k : Nat) (ki c m : Int), (f 1).toNat - k < fu → (ki = (k : Int)) → ((k : Int) ≤ f 1) → (c = sumI (ldr L (fun i => L i - W i)) k) → (m = mxE L (fun i => L i - W i) k) → (0 ≤ m ∧ m ≤ 200) → G K 0 0 H 7 [(0, .ref y), (1, .int (J b)), (2, .int (J c)), (3, .int (J m)), (4, .int (J ki))] [] := by
    intro fu
    induction fu with
    | zero => intro k ki c m hm; exact absurd hm (Nat.not_lt_zero _)
    | succ fu ih7 =>
      intro k ki c m hm he h1 hc hm hmb
      subst he
      refine g_iload (pc := 7) (pl := 4) X dX9_leaders_7 rfl ?_
      refine g_aload_n (pc := 9) (pl := 0) X dX9_leaders_9 rfl ?_
      refine g_getf (pc := 10) X zF_X9_leaders_7 hO rfl dX9_leaders_10 ?_
      refine g_iconst (pc := 13) X dX9_leaders_13 ?_
      refine g_iaload (pc := 14) X hNw (by omega) (by omega) (by omega) dX9_leaders_14 ?_
      refine g_icmp_ge (pc := 15) X 75 dX9_leaders_15 (by decide) (by omega) (by omega) (fun c15 => ?_) (fun c15 => ?_)
      · skip
        refine g_iload_n (pc := 75) (pl := 1) X dX9_leaders_75 rfl ?_
        refine g_if_eq (pc := 76) X 83 dX9_leaders_76 (by decide) (by omega) (fun c76 => ?_) (fun c76 => ?_)
        · skip
          refine g_iload_n (pc := 83) (pl := 3) X dX9_leaders_83 rfl ?_
          refine g_iret (pc := 84) X R hH dX9_leaders_84 ?_
          have ek : (f 1).toNat = k := by omega
          refine ⟨rfl, ?_⟩
          rw [ek, ← hc, ← hm]
          first | exact if_pos (by omega) | exact if_neg (by omega)
        · skip
          refine g_iload_n (pc := 79) (pl := 2) X dX9_leaders_79 rfl ?_
          refine g_goto (pc := 80) X 84 dX9_leaders_80 (by decide) ?_
          refine g_iret (pc := 84) X R hH dX9_leaders_84 ?_
          have ek : (f 1).toNat = k := by omega
          refine ⟨rfl, ?_⟩
          rw [ek, ← hc, ← hm]
          first | exact if_pos (by omega) | exact if_neg (by omega)
      · skip
        have hl := hL (k : Int) (by omega) (by omega)
        have hw := hW (k : Int) (by omega) (by omega)
        have hlw := hLW (k : Int) (by omega) (by omega)
        refine g_aload_n (pc := 18) (pl := 0) X dX9_leaders_18 rfl ?_
        refine g_getf (pc := 19) X zF_X9_leaders_29 hO rfl dX9_leaders_19 ?_
        refine g_iload (pc := 22) (pl := 4) X dX9_leaders_22 rfl ?_
        refine g_iaload (pc := 24) X hLn (by omega) (by omega) (by omega) dX9_leaders_24 ?_
        refine g_bipush (pc := 25) X dX9_leaders_25 (by decide +kernel) ?_
        refine g_icmp_ne (pc := 27) X 34 dX9_leaders_27 (by decide) (by omega) (by omega) (fun c27 => ?_) (fun c27 => ?_)
        · skip
          refine g_aload_n (pc := 34) (pl := 0) X dX9_leaders_34 rfl ?_
          refine g_getf (pc := 35) X zF_X9_leaders_29 hO rfl dX9_leaders_35 ?_
          refine g_iload (pc := 38) (pl := 4) X dX9_leaders_38 rfl ?_
          refine g_iaload (pc := 40) X hLn (by omega) (by omega) (by omega) dX9_leaders_40 ?_
          refine g_aload_n (pc := 41) (pl := 0) X dX9_leaders_41 rfl ?_
          refine g_getf (pc := 42) X zF_X9_leaders_32 hO rfl dX9_leaders_42 ?_
          refine g_iload (pc := 45) (pl := 4) X dX9_leaders_45 rfl ?_
          refine g_iaload (pc := 47) X hOw (by omega) (by omega) (by omega) dX9_leaders_47 ?_
          refine g_isub (pc := 48) X dX9_leaders_48 ?_
          refine g_istore (pc := 49) (lv' := [(5, _), (0, _), (1, _), (2, _), (3, _), (4, _)]) X dX9_leaders_49 (by decide) rfl ?_
          refine g_iload_n (pc := 51) (pl := 3) X dX9_leaders_51 rfl ?_
          refine g_iload (pc := 52) (pl := 0) X dX9_leaders_52 rfl ?_
          refine g_iadd (pc := 54) X dX9_leaders_54 ?_
          refine g_istore_n (pc := 55) (lv' := [(2, _), (5, _), (0, _), (1, _), (3, _), (4, _)]) X dX9_leaders_55 (by decide) rfl ?_
          refine g_iload (pc := 56) (pl := 1) X dX9_leaders_56 rfl ?_
          refine g_iload_n (pc := 58) (pl := 4) X dX9_leaders_58 rfl ?_
          refine g_icmp_le (pc := 59) X 67 dX9_leaders_59 (by decide) (by omega) (by omega) (fun c59 => ?_) (fun c59 => ?_)
          · skip
            refine g_iload_n (pc := 67) (pl := 4) X dX9_leaders_67 rfl ?_
            refine g_istore_n (pc := 68) (lv' := [(3, _), (2, _), (5, _), (0, _), (1, _), (4, _)]) X dX9_leaders_68 (by decide) rfl ?_
            refine g_iinc (pc := 69) (pl := 5) (x := (k : Int)) (lv' := [(4, _), (3, _), (2, _), (5, _), (0, _), (1, _)]) X dX9_leaders_69 rfl (by decide) rfl ?_
            refine g_goto (pc := 72) X 7 dX9_leaders_72 (by decide) ?_
            refine G.pick [4, 5, 2, 1, 0] (lv' := [(0, _), (1, _), (2, _), (3, _), (4, _)]) rfl ?_
            have e5 : (ldr L (fun i => L i - W i)) (k : Int) = (L (k : Int)) - (W (k : Int)) := if_neg (by omega)
            have q2 := mxE_s L (fun i => L i - W i) k
            rw [← hm, e5] at q2
            have q1 : sumI (ldr L (fun i => L i - W i)) (k + 1) = sumI (ldr L (fun i => L i - W i)) k + (ldr L (fun i => L i - W i)) (k : Int) := rfl
            rw [← hc, e5] at q1
            exact ih7 (k + 1) _ _ _ (by omega) (by omega) (by omega) (by rw [q1]) (by rw [q2]; first | exact (if_pos (by omega)).symm | exact (if_neg (by omega)).symm) (by omega)
          · skip
            refine g_iload (pc := 62) (pl := 1) X dX9_leaders_62 rfl ?_
            refine g_goto (pc := 64) X 68 dX9_leaders_64 (by decide) ?_
            refine g_istore_n (pc := 68) (lv' := [(3, _), (2, _), (5, _), (0, _), (1, _), (4, _)]) X dX9_leaders_68 (by decide) rfl ?_
            refine g_iinc (pc := 69) (pl := 5) (x := (k : Int)) (lv' := [(4, _), (3, _), (2, _), (5, _), (0, _), (1, _)]) X dX9_leaders_69 rfl (by decide) rfl ?_
            refine g_goto (pc := 72) X 7 dX9_leaders_72 (by decide) ?_
            refine G.pick [4, 5, 2, 1, 0] (lv' := [(0, _), (1, _), (2, _), (3, _), (4, _)]) rfl ?_
            have e5 : (ldr L (fun i => L i - W i)) (k : Int) = (L (k : Int)) - (W (k : Int)) := if_neg (by omega)
            have q2 := mxE_s L (fun i => L i - W i) k
            rw [← hm, e5] at q2
            have q1 : sumI (ldr L (fun i => L i - W i)) (k + 1) = sumI (ldr L (fun i => L i - W i)) k + (ldr L (fun i => L i - W i)) (k : Int) := rfl
            rw [← hc, e5] at q1
            exact ih7 (k + 1) _ _ _ (by omega) (by omega) (by omega) (by rw [q1]) (by rw [q2]; first | exact (if_pos (by omega)).symm | exact (if_neg (by omega)).symm) (by omega)
        · skip
          refine g_iconst (pc := 30) X dX9_leaders_30 ?_
          refine g_goto (pc := 31) X 49 dX9_leaders_31 (by decide) ?_
          refine g_istore (pc := 49) (lv' := [(5, _), (0, _), (1, _), (2, _), (3, _), (4, _)]) X dX9_leaders_49 (by decide) rfl ?_
          refine g_iload_n (pc := 51) (pl := 3) X dX9_leaders_51 rfl ?_
          refine g_iload (pc := 52) (pl := 0) X dX9_leaders_52 rfl ?_
          refine g_iadd (pc := 54) X dX9_leaders_54 ?_
          refine g_istore_n (pc := 55) (lv' := [(2, _), (5, _), (0, _), (1, _), (3, _), (4, _)]) X dX9_leaders_55 (by decide) rfl ?_
          refine g_iload (pc := 56) (pl := 1) X dX9_leaders_56 rfl ?_
          refine g_iload_n (pc := 58) (pl := 4) X dX9_leaders_58 rfl ?_
          refine g_icmp_le (pc := 59) X 67 dX9_leaders_59 (by decide) (by omega) (by omega) (fun c59 => ?_) (fun c59 => ?_)
          · skip
            refine g_iload_n (pc := 67) (pl := 4) X dX9_leaders_67 rfl ?_
            refine g_istore_n (pc := 68) (lv' := [(3, _), (2, _), (5, _), (0, _), (1, _), (4, _)]) X dX9_leaders_68 (by decide) rfl ?_
            refine g_iinc (pc := 69) (pl := 5) (x := (k : Int)) (lv' := [(4, _), (3, _), (2, _), (5, _), (0, _), (1, _)]) X dX9_leaders_69 rfl (by decide) rfl ?_
            refine g_goto (pc := 72) X 7 dX9_leaders_72 (by decide) ?_
            refine G.pick [4, 5, 2, 1, 0] (lv' := [(0, _), (1, _), (2, _), (3, _), (4, _)]) rfl ?_
            have e5 : (ldr L (fun i => L i - W i)) (k : Int) = 0 := if_pos (by omega)
            have q2 := mxE_s L (fun i => L i - W i) k
            rw [← hm, e5] at q2
            have q1 : sumI (ldr L (fun i => L i - W i)) (k + 1) = sumI (ldr L (fun i => L i - W i)) k + (ldr L (fun i => L i - W i)) (k : Int) := rfl
            rw [← hc, e5] at q1
            exact ih7 (k + 1) _ _ _ (by omega) (by omega) (by omega) (by rw [q1]) (by rw [q2]; first | exact (if_pos (by omega)).symm | exact (if_neg (by omega)).symm) (by omega)
          · skip
            refine g_iload (pc := 62) (pl := 1) X dX9_leaders_62 rfl ?_
            refine g_goto (pc := 64) X 68 dX9_leaders_64 (by decide) ?_
            refine g_istore_n (pc := 68) (lv' := [(3, _), (2, _), (5, _), (0, _), (1, _), (4, _)]) X dX9_leaders_68 (by decide) rfl ?_
            refine g_iinc (pc := 69) (pl := 5) (x := (k : Int)) (lv' := [(4, _), (3, _), (2, _), (5, _), (0, _), (1, _)]) X dX9_leaders_69 rfl (by decide) rfl ?_
            refine g_goto (pc := 72) X 7 dX9_leaders_72 (by decide) ?_
            refine G.pick [4, 5, 2, 1, 0] (lv' := [(0, _), (1, _), (2, _), (3, _), (4, _)]) rfl ?_
            have e5 : (ldr L (fun i => L i - W i)) (k : Int) = 0 := if_pos (by omega)
            have q2 := mxE_s L (fun i => L i - W i) k
            rw [← hm, e5] at q2
            have q1 : sumI (ldr L (fun i => L i - W i)) (k + 1) = sumI (ldr L (fun i => L i - W i)) k + (ldr L (fun i => L i - W i)) (k : Int) := rfl
            rw [← hc, e5] at q1
            exact ih7 (k + 1) _ _ _ (by omega) (by omega) (by omega) (by rw [q1]) (by rw [q2]; first | exact (if_pos (by omega)).symm | exact (if_neg (by omega)).symm) (by omega)
  refine G.pick [3, 4, 2, 1, 0] (lv' := [(0, _), (1, _), (2, _), (3, _), (4, _)]) rfl ?_
  exact hL7 _ 0 _ _ _ (Nat.lt_succ_self _) rfl (by omega) rfl rfl (by omega)

abbrev rm_X9_isAt : Room := { frames := 1, cells := 0, slots := 0, locals := 22 }
theorem zF_X9_isAt_206 : zF RX9 wsX9_isAt 9 7 206 := ⟨RX9, TX9, 17, rfl, by decide +kernel, by decide, by decide +kernel⟩
theorem zF_X9_isAt_186 : zF RX9 wsX9_isAt 9 6 186 := ⟨RX9, TX9, 17, rfl, by decide +kernel, by decide, by decide +kernel⟩
theorem zF_X9_isAt_23 : zF RX9 wsX9_isAt 9 5 23 := ⟨RX9, TX9, 17, rfl, by decide +kernel, by decide, by decide +kernel⟩
theorem cs_X9_isAt_41 : zCJ RX9 wsX9_isAt 41 yX9_in wsX9_in cX9_in 3 (some .boolean) rm_X9_isAt rm_X9_in 3 := ⟨_, gX9_isAt_X9_in, rfl, ⟨by decide +kernel, by decide +kernel, by decide +kernel⟩, ⟨Nat.le_of_ble_eq_true rfl, Nat.le_of_ble_eq_true rfl⟩⟩
set_option maxRecDepth 100000 in
theorem c_X9_isAt (l : Launch) (D : zD) (base : Nat) (y : Nat) (kp pd at' od fi la pc : Int) (f : Int → Int) (P : Int → Int) (a b : Int) (hq : base ≤ y) (hat : 0 ≤ at' ∧ at' ≤ pd ∧ pd ≤ 80) (hPr : ∀ i : Int, 0 ≤ i → i < pd → 33 ≤ P i ∧ P i ≤ 126) (ha : 0 ≤ a ∧ rg a) (hb : rg b) : Ct l yX9_isAt wsX9_isAt rm_X9_isAt D base [.ref y, .int (J a), .int (J b)] (fun H => MoO D y kp pd at' od fi la pc H ∧ NwAt D y f H ∧ Ia D (y + 5) 80 P H) (PI (fun H v H1 => H = H1 ∧ (if a ≤ itm pd P at' ∧ itm pd P at' ≤ b then 1 else 0) = v)) := by
  refine Ct.of (own := RX9) (cc := cX9_isAt) (maxL := 3) (by decide +kernel) rfl (Nat.le_of_ble_eq_true rfl) rfl ?_
  intro K H X R hH hnm hP
  show G K 0 0 H 0 [(0, .ref y), (1, .int (J a)), (2, .int (J b))] []
  obtain ⟨hO, hNw, hPd⟩ := hP
  refine g_aload_n (pc := 0) (pl := 0) X dX9_isAt_0 rfl ?_
  refine g_getf (pc := 1) X zF_X9_isAt_206 hO rfl dX9_isAt_1 ?_
  refine g_aload_n (pc := 4) (pl := 0) X dX9_isAt_4 rfl ?_
  refine g_getf (pc := 5) X zF_X9_isAt_186 hO rfl dX9_isAt_5 ?_
  refine g_icmp_ge (pc := 8) X 32 dX9_isAt_8 (by decide) (by omega) (by omega) (fun c8 => ?_) (fun c8 => ?_)
  · skip
    have eI : itm pd P at' = -1 := if_neg (by omega)
    refine g_iconst (pc := 32) X dX9_isAt_32 ?_
    refine g_zret (pc := 33) X R hH (by first | exact Or.inl rfl | exact Or.inr rfl | omega) dX9_isAt_33 ?_
    refine ⟨rfl, ?_⟩
    rw [eI]
    first | exact if_pos (by omega) | exact if_neg (by omega)
  · skip
    have hpr := hPr at' (by omega) (by omega)
    have eI : itm pd P at' = P at' := if_pos (by omega)
    refine g_aload_n (pc := 11) (pl := 0) X dX9_isAt_11 rfl ?_
    refine g_getf (pc := 12) X zF_X9_isAt_23 hO rfl dX9_isAt_12 ?_
    refine g_aload_n (pc := 15) (pl := 0) X dX9_isAt_15 rfl ?_
    refine g_getf (pc := 16) X zF_X9_isAt_206 hO rfl dX9_isAt_16 ?_
    refine g_iaload (pc := 19) X hPd (by omega) (by omega) (by omega) dX9_isAt_19 ?_
    refine g_iload_n (pc := 20) (pl := 1) X dX9_isAt_20 rfl ?_
    refine g_iload_n (pc := 21) (pl := 2) X dX9_isAt_21 rfl ?_
    refine gJi (pc := 22) (n2 := 0) (k2 := 0) X cs_X9_isAt_41 (c_X9_in (zl K) D base (P at') a b (by omega) (by omega) (by omega)) rfl (by have := hO.lt; omega) trivial rfl ⟨Nat.le_of_ble_eq_true rfl, Nat.le_of_ble_eq_true rfl⟩ dX9_isAt_22 (Nat.le_of_ble_eq_true rfl) rfl rfl (fun v22 H1 hp22 hs22 => ?_)
    obtain ⟨rfl, rfl⟩ := hp22
    refine g_if_eq (pc := 25) X 32 dX9_isAt_25 (by decide) (zbr _) (fun c25 => ?_) (fun c25 => ?_)
    · skip
      replace c25 := zb0 c25
      refine g_iconst (pc := 32) X dX9_isAt_32 ?_
      refine g_zret (pc := 33) X R hH (by first | exact Or.inl rfl | exact Or.inr rfl | omega) dX9_isAt_33 ?_
      refine ⟨rfl, ?_⟩
      rw [eI]
      first | exact if_pos (by omega) | exact if_neg (by omega)
    · skip
      replace c25 := zb1 c25
      refine g_iconst (pc := 28) X dX9_isAt_28 ?_
      refine g_goto (pc := 29) X 33 dX9_isAt_29 (by decide) ?_
      refine g_zret (pc := 33) X R hH (by first | exact Or.inl rfl | exact Or.inr rfl | omega) dX9_isAt_33 ?_
      refine ⟨rfl, ?_⟩
      rw [eI]
      first | exact if_pos (by omega) | exact if_neg (by omega)

abbrev rm_X9_isSign : Room := { frames := 2, cells := 0, slots := 0, locals := 44 }
theorem cs_X9_isSign_209 : zCV RX9 wsX9_isSign 209 9 yX9_isAt wsX9_isAt cX9_isAt 3 (some .boolean) rm_X9_isSign rm_X9_isAt 2 := ⟨_, _, gX9_isSign_X9_isAt, rfl, ⟨by decide +kernel, by decide +kernel, by decide +kernel⟩, ⟨Nat.le_of_ble_eq_true rfl, Nat.le_of_ble_eq_true rfl⟩, rfl, rfl⟩
theorem zF_X9_isSign_206 : zF RX9 wsX9_isSign 9 7 206 := ⟨RX9, TX9, 17, rfl, by decide +kernel, by decide, by decide +kernel⟩
theorem zW_X9_isSign_206 : zW RX9 wsX9_isSign 9 7 206 false (tyX9 7) := ⟨RX9, TX9, 17, tyX9, rfl, by decide +kernel, by decide, by decide +kernel, tyX9_ok, nmX9, rfl, rfl, rfl⟩
set_option maxRecDepth 100000 in
theorem c_X9_isSign (l : Launch) (D : zD) (base : Nat) (y : Nat) (kp pd at' od fi la pc : Int) (f : Int → Int) (P : Int → Int) (c : Int) (hq : base ≤ y) (hat : 0 ≤ at' ∧ at' ≤ pd ∧ pd ≤ 80) (hPr : ∀ i : Int, 0 ≤ i → i < pd → 33 ≤ P i ∧ P i ≤ 126) (hc : 0 ≤ c ∧ rg c) : Ct l yX9_isSign wsX9_isSign rm_X9_isSign D base [.ref y, .int (J c)] (fun H => MoO D y kp pd at' od fi la pc H ∧ NwAt D y f H ∧ Ia D (y + 5) 80 P H) (PI (fun H v H1 => (itm pd P at' = c ∧ 1 = v ∧ MoO D y kp pd (at' + 1) od fi la pc H1 ∧ NwAt D y f H1 ∧ Ia D (y + 5) 80 P H1 ∧ Fr (Iv y (y + 1)) 0 H H1) ∨ (¬ itm pd P at' = c ∧ 0 = v ∧ MoO D y kp pd at' od fi la pc H1 ∧ NwAt D y f H1 ∧ Ia D (y + 5) 80 P H1 ∧ Fr (Iv y (y + 1)) 0 H H1))) := by
  refine Ct.of (own := RX9) (cc := cX9_isSign) (maxL := 3) (by decide +kernel) rfl (Nat.le_of_ble_eq_true rfl) rfl ?_
  intro K H X R hH hnm hP
  show G K 0 0 H 0 [(0, .ref y), (1, .int (J c))] []
  obtain ⟨hO, hNw, hPd⟩ := hP
  refine g_aload_n (pc := 0) (pl := 0) X dX9_isSign_0 rfl ?_
  refine g_iload_n (pc := 1) (pl := 1) X dX9_isSign_1 rfl ?_
  refine g_iload_n (pc := 2) (pl := 1) X dX9_isSign_2 rfl ?_
  refine gVi (pc := 3) (n2 := 0) (k2 := 0) X cs_X9_isSign_209 (c_X9_isAt (zl K) D base y kp pd at' od fi la pc f P c c hq hat hPr hc (by omega)) rfl hO (by omega) ⟨hO, hNw, hPd⟩ rfl ⟨Nat.le_of_ble_eq_true rfl, Nat.le_of_ble_eq_true rfl⟩ dX9_isSign_3 (Nat.le_of_ble_eq_true rfl) rfl rfl (fun v3 H1 hp3 hs3 => ?_)
  obtain ⟨rfl, rfl⟩ := hp3
  refine g_istore_n (pc := 6) (lv' := [(2, _), (0, _), (1, _)]) X dX9_isSign_6 (by decide) rfl ?_
  refine g_aload_n (pc := 7) (pl := 1) X dX9_isSign_7 rfl ?_
  refine g_dup (pc := 8) X dX9_isSign_8 rfl ?_
  refine g_getf (pc := 9) X zF_X9_isSign_206 hO rfl dX9_isSign_9 ?_
  refine g_iload_n (pc := 12) (pl := 0) X dX9_isSign_12 rfl ?_
  refine g_if_eq (pc := 13) X 20 dX9_isSign_13 (by decide) (zbr _) (fun c13 => ?_) (fun c13 => ?_)
  · skip
    replace c13 := zb0 c13
    refine g_iconst (pc := 20) X dX9_isSign_20 ?_
    refine g_iadd (pc := 21) X dX9_isSign_21 ?_
    refine g_putf (pc := 22) X zW_X9_isSign_206 hO (by omega) rfl rfl rfl dX9_isSign_22 (fun H1 hOn hf1 => ?_)
    replace hNw := hNw.fr hf1 (by omega)
    replace hPd := hPd.fr hf1 (by omega)
    replace hO : Ob D y 9 [.ref (y + 1), .ref (y + 2), .int (J kp), .ref (y + 3), .ref (y + 4), .ref (y + 5), .int (J pd), .int (J (at' + 0)), .ref (y + 6), .int (J od), .int (J fi), .int (J la), .int (J pc), .ref (y + 7), .ref (y + 8), .ref (y + 9), .ref (y + 10)] H1 := hOn
    clear hOn
    refine g_iload_n (pc := 25) (pl := 0) X dX9_isSign_25 rfl ?_
    refine g_zret (pc := 26) X R hH (zbo _) dX9_isSign_26 ?_
    have z : ¬ itm pd P at' = c := by omega
    rw [if_neg (show ¬ (c ≤ itm pd P at' ∧ itm pd P at' ≤ c) by omega)]
    rw [show at' + 0 = at' from Int.add_zero _] at hO
    exact Or.inr ⟨z, rfl, hO, hNw, hPd, (hf1.wide (by omega) (by omega))⟩
  · skip
    replace c13 := zb1 c13
    refine g_iconst (pc := 16) X dX9_isSign_16 ?_
    refine g_goto (pc := 17) X 21 dX9_isSign_17 (by decide) ?_
    refine g_iadd (pc := 21) X dX9_isSign_21 ?_
    refine g_putf (pc := 22) X zW_X9_isSign_206 hO (by omega) rfl rfl rfl dX9_isSign_22 (fun H1 hOn hf1 => ?_)
    replace hNw := hNw.fr hf1 (by omega)
    replace hPd := hPd.fr hf1 (by omega)
    replace hO : Ob D y 9 [.ref (y + 1), .ref (y + 2), .int (J kp), .ref (y + 3), .ref (y + 4), .ref (y + 5), .int (J pd), .int (J (at' + 1)), .ref (y + 6), .int (J od), .int (J fi), .int (J la), .int (J pc), .ref (y + 7), .ref (y + 8), .ref (y + 9), .ref (y + 10)] H1 := hOn
    clear hOn
    refine g_iload_n (pc := 25) (pl := 0) X dX9_isSign_25 rfl ?_
    refine g_zret (pc := 26) X R hH (zbo _) dX9_isSign_26 ?_
    have z : itm pd P at' = c := by omega
    rw [if_pos (show c ≤ itm pd P at' ∧ itm pd P at' ≤ c by omega)]
    exact Or.inl ⟨z, rfl, hO, hNw, hPd, (hf1.wide (by omega) (by omega))⟩

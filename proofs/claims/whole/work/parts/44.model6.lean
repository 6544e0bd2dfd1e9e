theorem wrR_may {f : Int → Int} {p c z : Int} (h : (if ¬ (0 ≤ p ∧ p ≤ f 0) then -1 else if ¬ (0 ≤ c ∧ c < 26) then -2 else if 60 ≤ f 0 then -4 else 0) = z) : (z = 0 ∧ 0 ≤ p ∧ p ≤ f 0 ∧ 0 ≤ c ∧ c < 26 ∧ f 0 < 60 ∧ wrR f p c = f 0 + 1) ∨ (z < 0 ∧ wrR f p c = z) := by
  unfold wrR
  by_cases c1 : ¬ (0 ≤ p ∧ p ≤ f 0)
  · rw [if_pos c1] at h ⊢; omega
  · rw [if_neg c1] at h ⊢
    by_cases c2 : ¬ (0 ≤ c ∧ c < 26)
    · rw [if_pos c2] at h ⊢; omega
    · rw [if_neg c2] at h ⊢
      by_cases c3 : 60 ≤ f 0
      · rw [if_pos c3] at h ⊢; omega
      · rw [if_neg c3] at h ⊢; omega
/-- letters from a on are taken from w further on, up to x -/
def glX (f : Int → Int) (a w x : Int) : Int → Int := fun j => if j = 0 then f 0 - w else if (5 + a ≤ j ∧ j < 5 + x) ∨ (65 + a ≤ j ∧ j < 65 + x) then f (j + w) else f j
theorem glX_0 {f : Int → Int} {a w : Int} (h : 0 ≤ a) : up f 0 (f 0 - w) = glX f a w a := by
  funext j
  unfold up glX
  by_cases c : j = 0
  · rw [if_pos c, if_pos c]
  · rw [if_neg c, if_neg c, if_neg (by omega)]
theorem glX_step {f : Int → Int} {a w x : Int} (h : 0 ≤ a ∧ a ≤ x ∧ 0 < w ∧ x + w < 60) : up (up (glX f a w x) (5 + x) (glX f a w x (5 + x + w))) (65 + x) (up (glX f a w x) (5 + x) (glX f a w x (5 + x + w)) (65 + x + w)) = glX f a w (x + 1) := by
  have e1 : glX f a w x (5 + x + w) = f (5 + x + w) := (if_neg (by omega)).trans (if_neg (by omega))
  have e2 : up (glX f a w x) (5 + x) (glX f a w x (5 + x + w)) (65 + x + w) = f (65 + x + w) := (if_neg (by omega)).trans ((if_neg (by omega)).trans (if_neg (by omega)))
  rw [e2, e1]
  funext j
  by_cases c : j = 65 + x
  · rw [show up (up (glX f a w x) (5 + x) (f (5 + x + w))) (65 + x) (f (65 + x + w)) j = f (65 + x + w) from if_pos c, c]
    exact ((if_neg (by omega)).trans (if_pos (by omega))).symm
  · rw [show up (up (glX f a w x) (5 + x) (f (5 + x + w))) (65 + x) (f (65 + x + w)) j = up (glX f a w x) (5 + x) (f (5 + x + w)) j from if_neg c]
    by_cases c2 : j = 5 + x
    · rw [show up (glX f a w x) (5 + x) (f (5 + x + w)) j = f (5 + x + w) from if_pos c2, c2]
      exact ((if_neg (by omega)).trans (if_pos (by omega))).symm
    · rw [show up (glX f a w x) (5 + x) (f (5 + x + w)) j = glX f a w x j from if_neg c2]
      unfold glX
      by_cases c0 : j = 0
      · rw [if_pos c0, if_pos c0]
      · rw [if_neg c0, if_neg c0]
        by_cases c3 : (5 + a ≤ j ∧ j < 5 + x) ∨ (65 + a ≤ j ∧ j < 65 + x)
        · rw [if_pos c3, if_pos (by omega)]
        · rw [if_neg c3, if_neg (by omega)]
theorem glX_eq {f : Int → Int} {a b : Int} (hp : 0 ≤ a ∧ a ≤ b ∧ b < f 0 ∧ f 0 ≤ 60) : MEq (dlG f a b) (glX f a (b - a + 1) (f 0 - (b - a + 1))) := by
  obtain ⟨e0, e1, e2, e3, e4⟩ := dlG_at (g := f) (a := a) (b := b)
  have u0 : ∀ j : Int, j = 0 → glX f a (b - a + 1) (f 0 - (b - a + 1)) j = f 0 - (b - a + 1) := fun j h => if_pos h
  refine ⟨fun j j0 j1 => ?_, fun i i0 i1 => ?_, fun i i0 i1 => NEq.same i0 (fun j hj => ?_)⟩
  · by_cases z : j = 0
    · rw [u0 j z, z, e0]
    · rw [e1 j (by omega) j1]
      exact ((if_neg z).trans (if_neg (by omega))).symm
  · rw [e0] at i1
    rw [e2 i i0 (by omega), e3 i i0 (by omega)]
    unfold del
    by_cases z : i < a
    · rw [if_pos z, if_pos z]
      exact ⟨((if_neg (by omega)).trans (if_neg (by omega))).symm, ((if_neg (by omega)).trans (if_neg (by omega))).symm⟩
    · rw [if_neg z, if_neg z]
      exact ⟨((if_neg (by omega)).trans ((if_pos (by omega)).trans (congrArg f (by omega)))).symm, ((if_neg (by omega)).trans ((if_pos (by omega)).trans (congrArg f (by omega)))).symm⟩
  · rw [e4 j hj]
    exact ((if_neg (by omega)).trans (if_neg (by omega))).symm

abbrev rm_X9_goes : Room := { frames := 0, cells := 0, slots := 0, locals := 0 }
theorem zF_X9_goes_7 : zF RX9 wsX9_goes 9 0 7 := ⟨RX9, TX9, 17, rfl, by decide +kernel, by decide, by decide +kernel⟩
set_option maxRecDepth 100000 in
theorem c_X9_goes (l : Launch) (D : zD) (base : Nat) (y : Nat) (kp pd at' od fi la pc : Int) (f : Int → Int) (a b : Int) (hq : base ≤ y) (hp : 0 ≤ a ∧ a ≤ b ∧ b < f 0 ∧ f 0 ≤ 60) : Ct l yX9_goes wsX9_goes rm_X9_goes D base [.ref y, .int (J a), .int (J b)] (fun H => MoO D y kp pd at' od fi la pc H ∧ NwAt D y f H) (PV (fun H H1 => MoO D y kp pd at' od fi la pc H1 ∧ NwAt D y (glX f a (b - a + 1) (f 0 - (b - a + 1))) H1 ∧ Fr (Iv (y + 1) (y + 2)) 0 H H1)) := by
  refine Ct.of (own := RX9) (cc := cX9_goes) (maxL := 5) (by decide +kernel) rfl (Nat.le_of_ble_eq_true rfl) rfl ?_
  intro K H X R hH hnm hP
  show G K 0 0 H 0 [(0, .ref y), (1, .int (J a)), (2, .int (J b))] []
  obtain ⟨hO, hNw⟩ := hP
  have g0e : ∀ x : Int, glX f a (b - a + 1) x 0 = f 0 - (b - a + 1) := fun x => if_pos rfl
  refine g_iload_n (pc := 0) (pl := 2) X dX9_goes_0 rfl ?_
  refine g_iload_n (pc := 1) (pl := 1) X dX9_goes_1 rfl ?_
  refine g_isub (pc := 2) X dX9_goes_2 ?_
  refine g_iconst (pc := 3) X dX9_goes_3 ?_
  refine g_iadd (pc := 4) X dX9_goes_4 ?_
  refine g_istore_n (pc := 5) (lv' := [(3, _), (0, _), (1, _), (2, _)]) X dX9_goes_5 (by decide) rfl ?_
  refine g_aload_n (pc := 6) (pl := 1) X dX9_goes_6 rfl ?_
  refine g_getf (pc := 7) X zF_X9_goes_7 hO rfl dX9_goes_7 ?_
  refine g_iconst (pc := 10) X dX9_goes_10 ?_
  refine g_dup2 (pc := 11) X dX9_goes_11 rfl rfl ?_
  refine g_iaload (pc := 12) X hNw (by omega) (by omega) (by omega) dX9_goes_12 ?_
  refine g_iload_n (pc := 13) (pl := 0) X dX9_goes_13 rfl ?_
  refine g_isub (pc := 14) X dX9_goes_14 ?_
  refine g_iastore (pc := 15) X hNw (by omega) (by omega) (by omega) (by omega) dX9_goes_15 (fun H1 hNwn hf1 => ?_)
  replace hO := hO.fr hf1 (by omega)
  replace hNw := hNwn
  clear hNwn
  refine g_iload_n (pc := 16) (pl := 2) X dX9_goes_16 rfl ?_
  refine g_istore (pc := 17) (lv' := [(4, _), (3, _), (0, _), (1, _), (2, _)]) X dX9_goes_17 (by decide) rfl ?_
  have hL19 : ∀ (fu : Nat) (x : Int) (Hx : Heap), (f 0 - (b - a + 1) - x).toNat < fu → (a ≤ x ∧ x ≤ f 0 - (b - a + 1)) → (MoO D y kp pd at' od fi la pc Hx) → (NwAt D y (glX f a (b - a + 1) x) Hx) → (Fr (Iv (y + 1) (y + 2)) 0 H Hx) → G K 0 0 Hx 19 [(0, .ref y), (1, .int (J a)), (2, .int (J b)), (3, .int (J (b - a + 1))), (4, .int (J x))] [] := by
    intro fu
    induction fu with
    | zero => intro x Hx hm; exact absurd hm (Nat.not_lt_zero _)
    | succ fu ih19 =>
      intro x Hx hm hx hO hNw h3
      refine g_iload (pc := 19) (pl := 4) X dX9_goes_19 rfl ?_
      refine g_aload_n (pc := 21) (pl := 0) X dX9_goes_21 rfl ?_
      refine g_getf (pc := 22) X zF_X9_goes_7 hO rfl dX9_goes_22 ?_
      refine g_iconst (pc := 25) X dX9_goes_25 ?_
      refine g_iaload (pc := 26) X hNw (by omega) (by omega) (by omega) dX9_goes_26 ?_
      rw [show (glX f a (b - a + 1) x) 0 = f 0 - (b - a + 1) from g0e x]
      refine g_icmp_ge (pc := 27) X 78 dX9_goes_27 (by decide) (by omega) (by omega) (fun c27 => ?_) (fun c27 => ?_)
      · skip
        refine g_vret (pc := 78) X R hH dX9_goes_78 ?_
        have ex : x = f 0 - (b - a + 1) := by omega
        rw [ex] at hNw
        exact ⟨hO, hNw, (h3.wide (by omega) (by omega))⟩
      · skip
        refine g_aload_n (pc := 30) (pl := 0) X dX9_goes_30 rfl ?_
        refine g_getf (pc := 31) X zF_X9_goes_7 hO rfl dX9_goes_31 ?_
        refine g_iconst (pc := 34) X dX9_goes_34 ?_
        refine g_iload (pc := 35) (pl := 4) X dX9_goes_35 rfl ?_
        refine g_iadd (pc := 37) X dX9_goes_37 ?_
        refine g_aload_n (pc := 38) (pl := 0) X dX9_goes_38 rfl ?_
        refine g_getf (pc := 39) X zF_X9_goes_7 hO rfl dX9_goes_39 ?_
        refine g_iconst (pc := 42) X dX9_goes_42 ?_
        refine g_iload (pc := 43) (pl := 4) X dX9_goes_43 rfl ?_
        refine g_iadd (pc := 45) X dX9_goes_45 ?_
        refine g_iload_n (pc := 46) (pl := 3) X dX9_goes_46 rfl ?_
        refine g_iadd (pc := 47) X dX9_goes_47 ?_
        refine g_iaload (pc := 48) X hNw (by omega) (by omega) (by omega) dX9_goes_48 ?_
        refine g_iastore (pc := 49) X hNw (by omega) (by omega) (by omega) (by omega) dX9_goes_49 (fun H2 hNwn hf2 => ?_)
        replace hO := hO.fr hf2 (by omega)
        replace hNw := hNwn
        clear hNwn
        refine g_aload_n (pc := 50) (pl := 0) X dX9_goes_50 rfl ?_
        refine g_getf (pc := 51) X zF_X9_goes_7 hO rfl dX9_goes_51 ?_
        refine g_bipush (pc := 54) X dX9_goes_54 (by decide +kernel) ?_
        refine g_iload (pc := 56) (pl := 4) X dX9_goes_56 rfl ?_
        refine g_iadd (pc := 58) X dX9_goes_58 ?_
        refine g_aload_n (pc := 59) (pl := 0) X dX9_goes_59 rfl ?_
        refine g_getf (pc := 60) X zF_X9_goes_7 hO rfl dX9_goes_60 ?_
        refine g_bipush (pc := 63) X dX9_goes_63 (by decide +kernel) ?_
        refine g_iload (pc := 65) (pl := 4) X dX9_goes_65 rfl ?_
        refine g_iadd (pc := 67) X dX9_goes_67 ?_
        refine g_iload_n (pc := 68) (pl := 3) X dX9_goes_68 rfl ?_
        refine g_iadd (pc := 69) X dX9_goes_69 ?_
        refine g_iaload (pc := 70) X hNw (by omega) (by omega) (by omega) dX9_goes_70 ?_
        refine g_iastore (pc := 71) X hNw (by omega) (by omega) (by omega) (by omega) dX9_goes_71 (fun H3 hNwn hf3 => ?_)
        replace hO := hO.fr hf3 (by omega)
        replace hNw := hNwn
        clear hNwn
        refine g_iinc (pc := 72) (pl := 4) (x := x) (lv' := [(4, _), (0, _), (1, _), (2, _), (3, _)]) X dX9_goes_72 rfl (by decide) rfl ?_
        refine g_goto (pc := 75) X 19 dX9_goes_75 (by decide) ?_
        refine G.pick [1, 2, 3, 4, 0] (lv' := [(0, _), (1, _), (2, _), (3, _), (4, _)]) rfl ?_
        rw [glX_step (by omega)] at hNw
        exact ih19 (x + 1) H3 (by omega) (by omega) hO hNw (Fr.trans (h3.wide (by omega) (by omega)) (Fr.trans (hf2.wide (by omega) (by omega)) (hf3.wide (by omega) (by omega))))
  refine G.pick [2, 3, 4, 1, 0] (lv' := [(0, _), (1, _), (2, _), (3, _), (4, _)]) rfl ?_
  rw [glX_0 hp.1] at hNw
  exact hL19 _ a H1 (Nat.lt_succ_self _) (by omega) hO hNw (hf1.wide (by omega) (by omega))

abbrev rm_X9_set : Room := { frames := 2, cells := 0, slots := 0, locals := 45 }
theorem cs_X9_set_41 : zCJ RX9 wsX9_set 41 yX9_in wsX9_in cX9_in 3 (some .boolean) rm_X9_set rm_X9_in 3 := ⟨_, gX9_set_X9_in, rfl, ⟨by decide +kernel, by decide +kernel, by decide +kernel⟩, ⟨Nat.le_of_ble_eq_true rfl, Nat.le_of_ble_eq_true rfl⟩⟩
theorem cs_X9_set_91 : zCJ RX9 wsX9_set 91 yX9_isFor wsX9_isFor cX9_isFor 2 (some .boolean) rm_X9_set rm_X9_isFor 2 := ⟨_, gX9_set_X9_isFor, rfl, ⟨by decide +kernel, by decide +kernel, by decide +kernel⟩, ⟨Nat.le_of_ble_eq_true rfl, Nat.le_of_ble_eq_true rfl⟩⟩
theorem cs_X9_set_57 : zCV RX9 wsX9_set 57 9 yX9_records wsX9_records cX9_records 2 none rm_X9_set rm_X9_records 0 := ⟨_, _, gX9_set_X9_records, rfl, ⟨by decide +kernel, by decide +kernel, by decide +kernel⟩, ⟨Nat.le_of_ble_eq_true rfl, Nat.le_of_ble_eq_true rfl⟩, rfl, rfl⟩
theorem zF_X9_set_7 : zF RX9 wsX9_set 9 0 7 := ⟨RX9, TX9, 17, rfl, by decide +kernel, by decide, by decide +kernel⟩
set_option maxRecDepth 100000 in
theorem c_X9_set (l : Launch) (D : zD) (base : Nat) (y : Nat) (kp pd at' od fi la pc : Int) (f : Int → Int) (st : Int → Int → Int) (e w : Int) (hq : base ≤ y) (hI : PInv f) (hkp : 0 ≤ kp ∧ kp ≤ 6) (he : rg e) (hw : rg w) : Ct l yX9_set wsX9_set rm_X9_set D base [.ref y, .int (J e), .int (J w)] (fun H => MoO D y kp pd at' od fi la pc H ∧ NwAt D y f H ∧ PaAt D y kp st H) (PI (fun H v H1 => setR f e w = v ∧ MoO D y (hsN kp (setR f e w)) pd at' od fi la pc H1 ∧ NwAt D y (setG f e w) H1 ∧ PaAt D y (hsN kp (setR f e w)) (hsS kp (setR f e w) st f) H1 ∧ Fr (Iv y (y + 3)) 0 H H1)) := by
  refine Ct.of (own := RX9) (cc := cX9_set) (maxL := 4) (by decide +kernel) rfl (Nat.le_of_ble_eq_true rfl) rfl ?_
  intro K H X R hH hnm hP
  show G K 0 0 H 0 [(0, .ref y), (1, .int (J e)), (2, .int (J w))] []
  obtain ⟨hO, hNw, hPa⟩ := hP
  have hnum := hI.nums
  refine g_iload_n (pc := 0) (pl := 1) X dX9_set_0 rfl ?_
  refine g_iconst (pc := 1) X dX9_set_1 ?_
  refine g_iconst (pc := 2) X dX9_set_2 ?_
  refine gJi (pc := 3) (n2 := 0) (k2 := 0) X cs_X9_set_41 (c_X9_in (zl K) D base e 0 2 (by omega) (by omega) (by omega)) rfl (by have := hO.lt; omega) trivial rfl ⟨Nat.le_of_ble_eq_true rfl, Nat.le_of_ble_eq_true rfl⟩ dX9_set_3 (Nat.le_of_ble_eq_true rfl) rfl rfl (fun v3 H1 hp3 hs3 => ?_)
  obtain ⟨rfl, rfl⟩ := hp3
  refine g_if_eq (pc := 6) X 17 dX9_set_6 (by decide) (zbr _) (fun c6 => ?_) (fun c6 => ?_)
  · skip
    replace c6 := zb0 c6
    refine g_bipush (pc := 17) X dX9_set_17 (by decide +kernel) ?_
    refine g_iret (pc := 19) X R hH dX9_set_19 ?_
    have er : setR f e w = -2 := if_neg (by omega)
    rw [er, show setG f e w = f from if_neg (by omega)]
    rw [show hsN kp (-2) = kp from if_pos (by omega), show hsS kp (-2) st f = st from if_pos (by omega)]
    exact ⟨rfl, hO, hNw, hPa, Fr.refl _ _⟩
  · skip
    replace c6 := zb1 c6
    refine g_iload_n (pc := 9) (pl := 1) X dX9_set_9 rfl ?_
    refine g_iload_n (pc := 10) (pl := 2) X dX9_set_10 rfl ?_
    refine gJi (pc := 11) (n2 := 0) (k2 := 0) X cs_X9_set_91 (c_X9_isFor (zl K) D base e w he hw) rfl (by have := hO.lt; omega) (by have := hO.lt; omega) rfl ⟨Nat.le_of_ble_eq_true rfl, Nat.le_of_ble_eq_true rfl⟩ dX9_set_11 (Nat.le_of_ble_eq_true rfl) rfl rfl (fun v11 H1 hp11 hs11 => ?_)
    obtain ⟨rfl, rfl⟩ := hp11
    refine g_if_ne (pc := 14) X 20 dX9_set_14 (by decide) (zbr _) (fun c14 => ?_) (fun c14 => ?_)
    · skip
      replace c14 := zb1 c14
      refine g_aload_n (pc := 20) (pl := 0) X dX9_set_20 rfl ?_
      obtain ⟨ps, hPs, hst⟩ := id hPa
      refine gVv (pc := 21) (n2 := 0) (k2 := 0) X cs_X9_set_57 (c_X9_records (zl K) D base y kp pd at' od fi la pc f ps hq hkp) rfl hO (by omega) ⟨hO, hNw, hPs⟩ rfl ⟨Nat.le_of_ble_eq_true rfl, Nat.le_of_ble_eq_true rfl⟩ dX9_set_21 (Nat.le_of_ble_eq_true rfl) rfl rfl (fun H1 hp21 hs21 => ?_)
      obtain ⟨hOn, hNwn, ⟨ps2, hPs2, hr2⟩, hfr⟩ := hp21
      have hPan : PaAt D y (hpN kp) (hpS kp st f) H1 := ⟨ps2, hPs2, hpS_rec hkp hst hr2⟩
      clear hO hNw hPa hPs
      have hO := hOn
      have hNw := hNwn
      have hPa := hPan
      clear hOn hNwn hPan hPs2
      refine g_aload_n (pc := 24) (pl := 0) X dX9_set_24 rfl ?_
      refine g_getf (pc := 25) X zF_X9_set_7 hO rfl dX9_set_25 ?_
      refine g_iconst (pc := 28) X dX9_set_28 ?_
      refine g_iload_n (pc := 29) (pl := 1) X dX9_set_29 rfl ?_
      refine g_iadd (pc := 30) X dX9_set_30 ?_
      refine g_iaload (pc := 31) X hNw (by omega) (by omega) (by omega) dX9_set_31 ?_
      refine g_istore_n (pc := 32) (lv' := [(3, _), (0, _), (1, _), (2, _)]) X dX9_set_32 (by decide) rfl ?_
      refine g_aload_n (pc := 33) (pl := 1) X dX9_set_33 rfl ?_
      refine g_getf (pc := 34) X zF_X9_set_7 hO rfl dX9_set_34 ?_
      refine g_iconst (pc := 37) X dX9_set_37 ?_
      refine g_iload_n (pc := 38) (pl := 2) X dX9_set_38 rfl ?_
      refine g_iadd (pc := 39) X dX9_set_39 ?_
      refine g_iload_n (pc := 40) (pl := 3) X dX9_set_40 rfl ?_
      refine g_iastore (pc := 41) X hNw (by omega) (by omega) (by omega) (by omega) dX9_set_41 (fun H2 hNwn hf2 => ?_)
      replace hO := hO.fr hf2 (by omega)
      replace hPa := hPa.fr hf2 (by omega)
      replace hNw := hNwn
      clear hNwn
      refine g_iload_n (pc := 42) (pl := 0) X dX9_set_42 rfl ?_
      refine g_iret (pc := 43) X R hH dX9_set_43 ?_
      have er : setR f e w = f (2 + e) := if_pos (by omega)
      have hge : ¬ f (2 + e) < 0 := by rcases (show e = 0 ∨ e = 1 ∨ e = 2 by omega) with z | z | z <;> rw [z]; (show ¬ f 2 < 0; omega); (show ¬ f 3 < 0; omega); (show ¬ f 4 < 0; omega)
      rw [er, show setG f e w = up f (2 + e) w from if_pos (by omega)]
      rw [show hsN kp (f (2 + e)) = hpN kp from if_neg (by omega), show hsS kp (f (2 + e)) st f = hpS kp st f from if_neg (by omega)]
      exact ⟨rfl, hO, hNw, hPa, (Fr.trans (hfr.wide (by omega) (by omega)) (hf2.wide (by omega) (by omega)))⟩
    · skip
      replace c14 := zb0 c14
      refine g_bipush (pc := 17) X dX9_set_17 (by decide +kernel) ?_
      refine g_iret (pc := 19) X R hH dX9_set_19 ?_
      have er : setR f e w = -2 := if_neg (by omega)
      rw [er, show setG f e w = f from if_neg (by omega)]
      rw [show hsN kp (-2) = kp from if_pos (by omega), show hsS kp (-2) st f = st from if_pos (by omega)]
      exact ⟨rfl, hO, hNw, hPa, Fr.refl _ _⟩

abbrev rm_X9_write : Room := { frames := 2, cells := 0, slots := 0, locals := 45 }
theorem cs_X9_write_94 : zCV RX9 wsX9_write 94 9 yX9_mayWrite wsX9_mayWrite cX9_mayWrite 3 (some .int) rm_X9_write rm_X9_mayWrite 2 := ⟨_, _, gX9_write_X9_mayWrite, rfl, ⟨by decide +kernel, by decide +kernel, by decide +kernel⟩, ⟨Nat.le_of_ble_eq_true rfl, Nat.le_of_ble_eq_true rfl⟩, rfl, rfl⟩
theorem cs_X9_write_57 : zCV RX9 wsX9_write 57 9 yX9_records wsX9_records cX9_records 2 none rm_X9_write rm_X9_records 0 := ⟨_, _, gX9_write_X9_records, rfl, ⟨by decide +kernel, by decide +kernel, by decide +kernel⟩, ⟨Nat.le_of_ble_eq_true rfl, Nat.le_of_ble_eq_true rfl⟩, rfl, rfl⟩
theorem cs_X9_write_97 : zCV RX9 wsX9_write 97 9 yX9_comes wsX9_comes cX9_comes 5 none rm_X9_write rm_X9_comes 3 := ⟨_, _, gX9_write_X9_comes, rfl, ⟨by decide +kernel, by decide +kernel, by decide +kernel⟩, ⟨Nat.le_of_ble_eq_true rfl, Nat.le_of_ble_eq_true rfl⟩, rfl, rfl⟩
theorem zF_X9_write_7 : zF RX9 wsX9_write 9 0 7 := ⟨RX9, TX9, 17, rfl, by decide +kernel, by decide, by decide +kernel⟩
set_option maxRecDepth 100000 in
theorem c_X9_write (l : Launch) (D : zD) (base : Nat) (y : Nat) (kp pd at' od fi la pc : Int) (f : Int → Int) (st : Int → Int → Int) (p c : Int) (hq : base ≤ y) (hI : PInv f) (hkp : 0 ≤ kp ∧ kp ≤ 6) (hp : rg p) (hc : rg c) : Ct l yX9_write wsX9_write rm_X9_write D base [.ref y, .int (J p), .int (J c)] (fun H => MoO D y kp pd at' od fi la pc H ∧ NwAt D y f H ∧ PaAt D y kp st H) (PI (fun H v H1 => wrR f p c = v ∧ (∃ f2 : Int → Int, MEq (wrG f p c) f2 ∧ NwAt D y f2 H1) ∧ MoO D y (hsN kp (wrR f p c)) pd at' od fi la pc H1 ∧ PaAt D y (hsN kp (wrR f p c)) (hsS kp (wrR f p c) st f) H1 ∧ Fr (Iv y (y + 3)) 0 H H1)) := by
  refine Ct.of (own := RX9) (cc := cX9_write) (maxL := 4) (by decide +kernel) rfl (Nat.le_of_ble_eq_true rfl) rfl ?_
  intro K H X R hH hnm hP
  show G K 0 0 H 0 [(0, .ref y), (1, .int (J p)), (2, .int (J c))] []
  obtain ⟨hO, hNw, hPa⟩ := hP
  have hnum := hI.nums
  refine g_aload_n (pc := 0) (pl := 0) X dX9_write_0 rfl ?_
  refine g_iload_n (pc := 1) (pl := 1) X dX9_write_1 rfl ?_
  refine g_iload_n (pc := 2) (pl := 2) X dX9_write_2 rfl ?_
  refine gVi (pc := 3) (n2 := 0) (k2 := 0) X cs_X9_write_94 (c_X9_mayWrite (zl K) D base y kp pd at' od fi la pc f p c hq hI hp hc) rfl hO (by omega) ⟨hO, hNw⟩ rfl ⟨Nat.le_of_ble_eq_true rfl, Nat.le_of_ble_eq_true rfl⟩ dX9_write_3 (Nat.le_of_ble_eq_true rfl) rfl rfl (fun v3 H1 hp3 hs3 => ?_)
  obtain ⟨rfl, hz⟩ := hp3
  have hm := wrR_may hz
  refine g_istore_n (pc := 6) (lv' := [(3, _), (0, _), (1, _), (2, _)]) X dX9_write_6 (by decide) rfl ?_
  refine g_iload_n (pc := 7) (pl := 0) X dX9_write_7 rfl ?_
  refine g_if_eq (pc := 8) X 13 dX9_write_8 (by decide) (by omega) (fun c8 => ?_) (fun c8 => ?_)
  · skip
    refine g_aload_n (pc := 13) (pl := 1) X dX9_write_13 rfl ?_
    obtain ⟨ps, hPs, hst⟩ := id hPa
    refine gVv (pc := 14) (n2 := 0) (k2 := 0) X cs_X9_write_57 (c_X9_records (zl K) D base y kp pd at' od fi la pc f ps hq hkp) rfl hO (by omega) ⟨hO, hNw, hPs⟩ rfl ⟨Nat.le_of_ble_eq_true rfl, Nat.le_of_ble_eq_true rfl⟩ dX9_write_14 (Nat.le_of_ble_eq_true rfl) rfl rfl (fun H1 hp14 hs14 => ?_)
    obtain ⟨hOn, hNwn, ⟨ps2, hPs2, hr2⟩, hfr⟩ := hp14
    have hPan : PaAt D y (hpN kp) (hpS kp st f) H1 := ⟨ps2, hPs2, hpS_rec hkp hst hr2⟩
    clear hO hNw hPa hPs
    have hO := hOn
    have hNw := hNwn
    have hPa := hPan
    clear hOn hNwn hPan hPs2
    refine g_aload_n (pc := 17) (pl := 1) X dX9_write_17 rfl ?_
    refine g_iload_n (pc := 18) (pl := 2) X dX9_write_18 rfl ?_
    refine g_iload_n (pc := 19) (pl := 3) X dX9_write_19 rfl ?_
    refine g_iconst (pc := 20) X dX9_write_20 ?_
    refine gVv (pc := 21) (n2 := 0) (k2 := 0) X cs_X9_write_97 (c_X9_comes (zl K) D base y (hpN kp) pd at' od fi la pc f p c 0 hq (by omega)) rfl hO (by omega) ⟨hO, hNw⟩ rfl ⟨Nat.le_of_ble_eq_true rfl, Nat.le_of_ble_eq_true rfl⟩ dX9_write_21 (Nat.le_of_ble_eq_true rfl) rfl rfl (fun H2 hp21 hs21 => ?_)
    obtain ⟨hOn, hNwn, hfc⟩ := hp21
    replace hO := hO.fr hfc (by omega)
    replace hPa := hPa.fr hfc (by omega)
    clear hO hNw
    have hO := hOn
    have hNw := hNwn
    refine g_aload_n (pc := 24) (pl := 1) X dX9_write_24 rfl ?_
    refine g_getf (pc := 25) X zF_X9_write_7 hO rfl dX9_write_25 ?_
    refine g_iconst (pc := 28) X dX9_write_28 ?_
    refine g_iaload (pc := 29) X hNw (by omega) (by omega) (by omega) dX9_write_29 ?_
    rw [show (cmY f p c 0) 0 = f 0 + 1 from (show up _ 0 (f 0 + 1) 0 = f 0 + 1 from if_pos rfl)]
    refine g_iret (pc := 30) X R hH dX9_write_30 ?_
    have er : wrR f p c = f 0 + 1 := by omega
    have eg : wrG f p c = cmG f p c 0 := if_neg (by omega)
    rw [er, eg]
    rw [show hsN kp (f 0 + 1) = hpN kp from if_neg (by omega), show hsS kp (f 0 + 1) st f = hpS kp st f from if_neg (by omega)]
    exact ⟨rfl, ⟨_, cmY_eq (by omega) (by omega), hNw⟩, hO, hPa, (Fr.trans (hfr.wide (by omega) (by omega)) (hfc.wide (by omega) (by omega)))⟩
  · skip
    refine g_iload_n (pc := 11) (pl := 0) X dX9_write_11 rfl ?_
    refine g_iret (pc := 12) X R hH dX9_write_12 ?_
    have er : wrR f p c = v3 := by omega
    rw [er]
    rw [show hsN kp (v3) = kp from if_pos (by omega), show hsS kp (v3) st f = st from if_pos (by omega)]
    exact ⟨rfl, ⟨f, by rw [show wrG f p c = f from if_pos (by omega)]; exact MEq.refl _, hNw⟩, hO, hPa, Fr.refl _ _⟩

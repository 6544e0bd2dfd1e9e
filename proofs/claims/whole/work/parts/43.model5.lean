theorem NEq.same {g g' : Int → Int} {i : Int} (h0 : 0 ≤ i) (h : ∀ j : Int, 125 ≤ j → g j = g' j) : NEq g g' i :=
  ⟨h _ (by omega), fun _ => ⟨h _ (by omega), h _ (by omega), h _ (by omega), fun j j0 _ => h _ (by omega), fun j j0 _ => h _ (by omega), fun j j0 _ => h _ (by omega)⟩⟩
/-- the past's states -/
def PaAt (D : zD) (y : Nat) (m : Int) (st : Int → Int → Int) (H : Heap) : Prop := ∃ ps : Int → Int, Ia D (y + 2) 8430 ps H ∧ ∀ i j : Int, 0 ≤ i → i < m → 0 ≤ j → j < 1405 → ps (1405 * i + j) = st i j
theorem PaAt.fr {D : zD} {y a b d : Nat} {m : Int} {st : Int → Int → Int} {H H' : Heap} (h : PaAt D y m st H) (fr : Fr (Iv a b) d H H') (e : y + 2 < a ∨ b ≤ y + 2) : PaAt D y m st H' := by
  obtain ⟨ps, h1, h2⟩ := h
  exact ⟨ps, h1.fr fr e, h2⟩
theorem hpS_rec {kp : Int} {st : Int → Int → Int} {ps ps2 : Int → Int} {f : Int → Int} (hk : 0 ≤ kp ∧ kp ≤ 6) (h : ∀ i j : Int, 0 ≤ i → i < kp → 0 ≤ j → j < 1405 → ps (1405 * i + j) = st i j) (h2 : ∀ i j : Int, 0 ≤ i → i < hpN kp → 0 ≤ j → j < 1405 → ps2 (1405 * i + j) = hpS kp (fun i j => ps (1405 * i + j)) f i j) :
    ∀ i j : Int, 0 ≤ i → i < hpN kp → 0 ≤ j → j < 1405 → ps2 (1405 * i + j) = hpS kp st f i j := by
  intro i j i0 i1 j0 j1
  rw [h2 i j i0 i1 j0 j1]
  unfold hpS
  unfold hpN at i1
  by_cases c : kp < 6
  · rw [if_pos c, if_pos c]
    rw [if_pos c] at i1
    by_cases c2 : i = kp
    · rw [if_pos c2, if_pos c2]
    · rw [if_neg c2, if_neg c2]; exact h i j i0 (by omega) j0 j1
  · rw [if_neg c, if_neg c]
    rw [if_neg c] at i1
    by_cases c2 : i = 5
    · rw [if_pos c2, if_pos c2]
    · rw [if_neg c2, if_neg c2]; exact h (i + 1) j (by omega) (by omega) j0 j1
/-- letters and owners from x on are moved up -/
def cmX (f : Int → Int) (x : Int) : Int → Int := fun j => if (5 + x < j ∧ j ≤ 5 + f 0) ∨ (65 + x < j ∧ j ≤ 65 + f 0) then f (j - 1) else f j
theorem cmX_0 {f : Int → Int} : cmX f (f 0) = f := by
  funext j
  exact if_neg (by omega)
theorem cmX_step {f : Int → Int} {x : Int} (h : 0 < x ∧ x ≤ f 0 ∧ f 0 < 60) : up (up (cmX f x) (5 + x) (cmX f x (5 + x - 1))) (65 + x) (up (cmX f x) (5 + x) (cmX f x (5 + x - 1)) (65 + x - 1)) = cmX f (x - 1) := by
  have e1 : cmX f x (5 + x - 1) = f (5 + x - 1) := if_neg (by omega)
  have e2 : up (cmX f x) (5 + x) (cmX f x (5 + x - 1)) (65 + x - 1) = f (65 + x - 1) := (if_neg (by omega)).trans (if_neg (by omega))
  rw [e2, e1]
  funext j
  by_cases c : j = 65 + x
  · rw [show up (up (cmX f x) (5 + x) (f (5 + x - 1))) (65 + x) (f (65 + x - 1)) j = f (65 + x - 1) from if_pos c, c]
    exact (if_pos (by omega)).symm
  · rw [show up (up (cmX f x) (5 + x) (f (5 + x - 1))) (65 + x) (f (65 + x - 1)) j = up (cmX f x) (5 + x) (f (5 + x - 1)) j from if_neg c]
    by_cases c2 : j = 5 + x
    · rw [show up (cmX f x) (5 + x) (f (5 + x - 1)) j = f (5 + x - 1) from if_pos c2, c2]
      exact (if_pos (by omega)).symm
    · rw [show up (cmX f x) (5 + x) (f (5 + x - 1)) j = cmX f x j from if_neg c2]
      unfold cmX
      by_cases c3 : (5 + x < j ∧ j ≤ 5 + f 0) ∨ (65 + x < j ∧ j ≤ 65 + f 0)
      · rw [if_pos c3, if_pos (by omega)]
      · rw [if_neg c3, if_neg (by omega)]
def cmY (f : Int → Int) (p c o : Int) : Int → Int := up (up (up (cmX f p) (5 + p) c) (65 + p) o) 0 (f 0 + 1)
theorem cmY_eq {f : Int → Int} {p c o : Int} (hp : 0 ≤ p ∧ p ≤ f 0) (hn : f 0 < 60) : MEq (cmG f p c o) (cmY f p c o) := by
  obtain ⟨e0, e1, e2, e3, e4⟩ := cmG_at (g := f) (p := p) (c := c) (o := o)
  have x0 : ∀ j : Int, ¬ j = 0 → cmY f p c o j = up (up (cmX f p) (5 + p) c) (65 + p) o j := fun j h => if_neg h
  have u0 : ∀ j : Int, j = 0 → cmY f p c o j = f 0 + 1 := fun j h => if_pos h
  refine ⟨fun j j0 j1 => ?_, fun i i0 i1 => ?_, fun i i0 i1 => NEq.same i0 (fun j hj => ?_)⟩
  · by_cases z : j = 0
    · rw [z, e0]; exact (u0 0 rfl).symm
    · rw [e1 j (by omega) j1, x0 j z]
      exact ((if_neg (by omega)).trans ((if_neg (by omega)).trans (if_neg (by omega)))).symm
  · rw [e0] at i1
    rw [e2 i i0 (by omega), e3 i i0 (by omega), x0 _ (by omega), x0 _ (by omega)]
    unfold ins
    by_cases z : i < p
    · rw [if_pos z, if_pos z]
      exact ⟨((if_neg (by omega)).trans ((if_neg (by omega)).trans (if_neg (by omega)))).symm, ((if_neg (by omega)).trans ((if_neg (by omega)).trans (if_neg (by omega)))).symm⟩
    · rw [if_neg z, if_neg z]
      by_cases z2 : i = p
      · rw [if_pos z2, if_pos z2]
        exact ⟨((if_neg (by omega)).trans (if_pos (by omega))).symm, (if_pos (by omega)).symm⟩
      · rw [if_neg z2, if_neg z2]
        exact ⟨((if_neg (by omega)).trans ((if_neg (by omega)).trans ((if_pos (by omega)).trans (congrArg f (by omega))))).symm, ((if_neg (by omega)).trans ((if_neg (by omega)).trans ((if_pos (by omega)).trans (congrArg f (by omega))))).symm⟩
  · rw [e4 j hj, x0 j (by omega)]
    exact ((if_neg (by omega)).trans ((if_neg (by omega)).trans (if_neg (by omega)))).symm

abbrev rm_X9_comes : Room := { frames := 0, cells := 0, slots := 0, locals := 0 }
theorem zF_X9_comes_7 : zF RX9 wsX9_comes 9 0 7 := ⟨RX9, TX9, 17, rfl, by decide +kernel, by decide, by decide +kernel⟩
set_option maxRecDepth 100000 in
theorem c_X9_comes (l : Launch) (D : zD) (base : Nat) (y : Nat) (kp pd at' od fi la pc : Int) (f : Int → Int) (p c o : Int) (hq : base ≤ y) (hp : 0 ≤ p ∧ p ≤ f 0 ∧ f 0 < 60) : Ct l yX9_comes wsX9_comes rm_X9_comes D base [.ref y, .int (J p), .int (J c), .int (J o)] (fun H => MoO D y kp pd at' od fi la pc H ∧ NwAt D y f H) (PV (fun H H1 => MoO D y kp pd at' od fi la pc H1 ∧ NwAt D y (cmY f p c o) H1 ∧ Fr (Iv (y + 1) (y + 2)) 0 H H1)) := by
  refine Ct.of (own := RX9) (cc := cX9_comes) (maxL := 5) (by decide +kernel) rfl (Nat.le_of_ble_eq_true rfl) rfl ?_
  intro K H X R hH hnm hP
  show G K 0 0 H 0 [(0, .ref y), (1, .int (J p)), (2, .int (J c)), (3, .int (J o))] []
  obtain ⟨hO, hNw⟩ := hP
  refine g_aload_n (pc := 0) (pl := 0) X dX9_comes_0 rfl ?_
  refine g_getf (pc := 1) X zF_X9_comes_7 hO rfl dX9_comes_1 ?_
  refine g_iconst (pc := 4) X dX9_comes_4 ?_
  refine g_iaload (pc := 5) X hNw (by omega) (by omega) (by omega) dX9_comes_5 ?_
  refine g_istore (pc := 6) (lv' := [(4, _), (0, _), (1, _), (2, _), (3, _)]) X dX9_comes_6 (by decide) rfl ?_
  have hL8 : ∀ (fu : Nat) (x : Int) (Hx : Heap), (x - p).toNat < fu → (p ≤ x ∧ x ≤ f 0) → (MoO D y kp pd at' od fi la pc Hx) → (NwAt D y (cmX f x) Hx) → (Fr (Iv (y + 1) (y + 2)) 0 H Hx) → G K 0 0 Hx 8 [(0, .ref y), (1, .int (J p)), (2, .int (J c)), (3, .int (J o)), (4, .int (J x))] [] := by
    intro fu
    induction fu with
    | zero => intro x Hx hm; exact absurd hm (Nat.not_lt_zero _)
    | succ fu ih8 =>
      intro x Hx hm hx hO hNw h3
      refine g_iload (pc := 8) (pl := 4) X dX9_comes_8 rfl ?_
      refine g_iload_n (pc := 10) (pl := 1) X dX9_comes_10 rfl ?_
      refine g_icmp_le (pc := 11) X 62 dX9_comes_11 (by decide) (by omega) (by omega) (fun c11 => ?_) (fun c11 => ?_)
      · skip
        have ex : x = p := by omega
        rw [ex] at hNw
        refine g_aload_n (pc := 62) (pl := 0) X dX9_comes_62 rfl ?_
        refine g_getf (pc := 63) X zF_X9_comes_7 hO rfl dX9_comes_63 ?_
        refine g_iconst (pc := 66) X dX9_comes_66 ?_
        refine g_iload_n (pc := 67) (pl := 1) X dX9_comes_67 rfl ?_
        refine g_iadd (pc := 68) X dX9_comes_68 ?_
        refine g_iload_n (pc := 69) (pl := 2) X dX9_comes_69 rfl ?_
        refine g_iastore (pc := 70) X hNw (by omega) (by omega) (by omega) (by omega) dX9_comes_70 (fun H1 hNwn hf1 => ?_)
        replace hO := hO.fr hf1 (by omega)
        replace hNw := hNwn
        clear hNwn
        refine g_aload_n (pc := 71) (pl := 0) X dX9_comes_71 rfl ?_
        refine g_getf (pc := 72) X zF_X9_comes_7 hO rfl dX9_comes_72 ?_
        refine g_bipush (pc := 75) X dX9_comes_75 (by decide +kernel) ?_
        refine g_iload_n (pc := 77) (pl := 1) X dX9_comes_77 rfl ?_
        refine g_iadd (pc := 78) X dX9_comes_78 ?_
        refine g_iload_n (pc := 79) (pl := 3) X dX9_comes_79 rfl ?_
        refine g_iastore (pc := 80) X hNw (by omega) (by omega) (by omega) (by omega) dX9_comes_80 (fun H2 hNwn hf2 => ?_)
        replace hO := hO.fr hf2 (by omega)
        replace hNw := hNwn
        clear hNwn
        refine g_aload_n (pc := 81) (pl := 0) X dX9_comes_81 rfl ?_
        refine g_getf (pc := 82) X zF_X9_comes_7 hO rfl dX9_comes_82 ?_
        refine g_iconst (pc := 85) X dX9_comes_85 ?_
        refine g_dup2 (pc := 86) X dX9_comes_86 rfl rfl ?_
        refine g_iaload (pc := 87) X hNw (by omega) (by omega) (by omega) dX9_comes_87 ?_
        refine g_iconst (pc := 88) X dX9_comes_88 ?_
        refine g_iadd (pc := 89) X dX9_comes_89 ?_
        refine g_iastore (pc := 90) X hNw (by omega) (by omega) (by omega) (by omega) dX9_comes_90 (fun H3 hNwn hf3 => ?_)
        replace hO := hO.fr hf3 (by omega)
        replace hNw := hNwn
        clear hNwn
        refine g_vret (pc := 91) X R hH dX9_comes_91 ?_
        have e9 : (up (up (cmX f p) (5 + p) c) (65 + p) o) 0 = f 0 := (if_neg (by omega)).trans ((if_neg (by omega)).trans (if_neg (by omega)))
        rw [e9] at hNw
        exact ⟨hO, hNw, (Fr.trans (h3.wide (by omega) (by omega)) (Fr.trans (hf1.wide (by omega) (by omega)) (Fr.trans (hf2.wide (by omega) (by omega)) (hf3.wide (by omega) (by omega)))))⟩
      · skip
        refine g_aload_n (pc := 14) (pl := 0) X dX9_comes_14 rfl ?_
        refine g_getf (pc := 15) X zF_X9_comes_7 hO rfl dX9_comes_15 ?_
        refine g_iconst (pc := 18) X dX9_comes_18 ?_
        refine g_iload (pc := 19) (pl := 4) X dX9_comes_19 rfl ?_
        refine g_iadd (pc := 21) X dX9_comes_21 ?_
        refine g_aload_n (pc := 22) (pl := 0) X dX9_comes_22 rfl ?_
        refine g_getf (pc := 23) X zF_X9_comes_7 hO rfl dX9_comes_23 ?_
        refine g_iconst (pc := 26) X dX9_comes_26 ?_
        refine g_iload (pc := 27) (pl := 4) X dX9_comes_27 rfl ?_
        refine g_iadd (pc := 29) X dX9_comes_29 ?_
        refine g_iconst (pc := 30) X dX9_comes_30 ?_
        refine g_isub (pc := 31) X dX9_comes_31 ?_
        refine g_iaload (pc := 32) X hNw (by omega) (by omega) (by omega) dX9_comes_32 ?_
        refine g_iastore (pc := 33) X hNw (by omega) (by omega) (by omega) (by omega) dX9_comes_33 (fun H1 hNwn hf1 => ?_)
        replace hO := hO.fr hf1 (by omega)
        replace hNw := hNwn
        clear hNwn
        refine g_aload_n (pc := 34) (pl := 0) X dX9_comes_34 rfl ?_
        refine g_getf (pc := 35) X zF_X9_comes_7 hO rfl dX9_comes_35 ?_
        refine g_bipush (pc := 38) X dX9_comes_38 (by decide +kernel) ?_
        refine g_iload (pc := 40) (pl := 4) X dX9_comes_40 rfl ?_
        refine g_iadd (pc := 42) X dX9_comes_42 ?_
        refine g_aload_n (pc := 43) (pl := 0) X dX9_comes_43 rfl ?_
        refine g_getf (pc := 44) X zF_X9_comes_7 hO rfl dX9_comes_44 ?_
        refine g_bipush (pc := 47) X dX9_comes_47 (by decide +kernel) ?_
        refine g_iload (pc := 49) (pl := 4) X dX9_comes_49 rfl ?_
        refine g_iadd (pc := 51) X dX9_comes_51 ?_
        refine g_iconst (pc := 52) X dX9_comes_52 ?_
        refine g_isub (pc := 53) X dX9_comes_53 ?_
        refine g_iaload (pc := 54) X hNw (by omega) (by omega) (by omega) dX9_comes_54 ?_
        refine g_iastore (pc := 55) X hNw (by omega) (by omega) (by omega) (by omega) dX9_comes_55 (fun H2 hNwn hf2 => ?_)
        replace hO := hO.fr hf2 (by omega)
        replace hNw := hNwn
        clear hNwn
        refine g_iinc (pc := 56) (pl := 4) (x := x) (lv' := [(4, _), (0, _), (1, _), (2, _), (3, _)]) X dX9_comes_56 rfl (by decide) rfl ?_
        refine g_goto (pc := 59) X 8 dX9_comes_59 (by decide) ?_
        refine G.pick [1, 2, 3, 4, 0] (lv' := [(0, _), (1, _), (2, _), (3, _), (4, _)]) rfl ?_
        rw [cmX_step (by omega)] at hNw
        exact ih8 (x + (-1)) H2 (by omega) (by omega) hO hNw (Fr.trans (h3.wide (by omega) (by omega)) (Fr.trans (hf1.wide (by omega) (by omega)) (hf2.wide (by omega) (by omega))))
  refine G.pick [1, 2, 3, 4, 0] (lv' := [(0, _), (1, _), (2, _), (3, _), (4, _)]) rfl ?_
  have hNw0 : NwAt D y (cmX f (f 0)) H := by rw [cmX_0]; exact hNw
  exact hL8 _ (f 0) H (Nat.lt_succ_self _) (by omega) hO hNw0 (Fr.refl _ _)

theorem Ia.congr {D : zD} {q N : Nat} {f f' : Int → Int} {H : Heap} (h : Ia D q N f H) (e : ∀ i : Int, 0 ≤ i → i < N → f i = f' i) : Ia D q N f' H := by
  have h2 : H[q]? = some (arrV (D.2.2 0) N (fun j : Nat => .int (J (f j)))) := h
  have h3 : arrV (D.2.2 0) N (fun j : Nat => Value.int (J (f j))) = arrV (D.2.2 0) N (fun j : Nat => Value.int (J (f' j))) := by
    unfold arrV
    congr 2
    funext j
    have e2 := e (j.val : Int) (by omega) (by have := j.isLt; omega)
    simp only [e2]
  rw [h3] at h2
  exact h2
/-- 1405 cells are laid over others -/
def lyF (f1 : Int → Int) (o1 : Int) (f2 : Int → Int) (o2 : Int) : Int → Int := fun j => if o2 ≤ j ∧ j < o2 + 1405 then f1 (o1 + (j - o2)) else f2 j
theorem lyF_step {f1 f2 : Int → Int} {o1 o2 k : Int} (h : 0 ≤ k) : up (fun j => if o2 ≤ j ∧ j < o2 + k then f1 (o1 + (j - o2)) else f2 j) (o2 + k) (f1 (o1 + k)) = fun j => if o2 ≤ j ∧ j < o2 + (k + 1) then f1 (o1 + (j - o2)) else f2 j := by
  funext j
  unfold up
  by_cases c : j = o2 + k
  · rw [if_pos c, if_pos (by omega), show o1 + (j - o2) = o1 + k by omega]
  · rw [if_neg c]
    dsimp only
    by_cases c2 : o2 ≤ j ∧ j < o2 + k
    · rw [if_pos c2, if_pos (by omega)]
    · rw [if_neg c2, if_neg (by omega)]
theorem lyF_0 {f1 f2 : Int → Int} {o1 o2 : Int} : f2 = fun j => if o2 ≤ j ∧ j < o2 + 0 then f1 (o1 + (j - o2)) else f2 j := by
  funext j
  rw [if_neg (by omega)]
theorem shl_step {ps : Int → Int} {x : Int} : up (fun j => if j < x then ps (j + 1405) else ps j) x (ps (x + 1405)) = fun j => if j < x + 1 then ps (j + 1405) else ps j := by
  funext j
  unfold up
  by_cases c : j = x
  · rw [if_pos c, if_pos (by omega), c]
  · rw [if_neg c]
    dsimp only
    by_cases c2 : j < x
    · rw [if_pos c2, if_pos (by omega)]
    · rw [if_neg c2, if_neg (by omega)]

abbrev rm_X9_lays : Room := { frames := 0, cells := 0, slots := 0, locals := 0 }
set_option maxRecDepth 100000 in
theorem c_X9_lays (l : Launch) (D : zD) (base : Nat) (p r N1 N2 : Nat) (o1 o2 : Int) (f1 f2 : Int → Int) (hq : base ≤ r) (hpr : ¬ p = r) (ho1 : 0 ≤ o1 ∧ o1 + 1405 ≤ N1 ∧ N1 ≤ 10000) (ho2 : 0 ≤ o2 ∧ o2 + 1405 ≤ N2 ∧ N2 ≤ 10000) : Ct l yX9_lays wsX9_lays rm_X9_lays D base [.ref p, .int (J o1), .ref r, .int (J o2)] (fun H => Ia D p N1 f1 H ∧ Ia D r N2 f2 H) (PV (fun H H1 => Ia D r N2 (lyF f1 o1 f2 o2) H1 ∧ Fr (Iv r (r + 1)) 0 H H1)) := by
  refine Ct.of (own := RX9) (cc := cX9_lays) (maxL := 5) (by decide +kernel) rfl (Nat.le_of_ble_eq_true rfl) rfl ?_
  intro K H X R hH hnm hP
  show G K 0 0 H 0 [(0, .ref p), (1, .int (J o1)), (2, .ref r), (3, .int (J o2))] []
  obtain ⟨hA1, hA2⟩ := hP
  refine g_iconst (pc := 0) X dX9_lays_0 ?_
  refine g_istore (pc := 1) (lv' := [(4, _), (0, _), (1, _), (2, _), (3, _)]) X dX9_lays_1 (by decide) rfl ?_
  have hL3 : ∀ (fu : Nat) (k : Int) (Hx : Heap), (1405 - k).toNat < fu → (0 ≤ k ∧ k ≤ 1405) → (Ia D p N1 f1 Hx) → (Ia D r N2 (fun j => if o2 ≤ j ∧ j < o2 + k then f1 (o1 + (j - o2)) else f2 j) Hx) → (Fr (Iv r (r + 1)) 0 H Hx) → G K 0 0 Hx 3 [(0, .ref p), (1, .int (J o1)), (2, .ref r), (3, .int (J o2)), (4, .int (J k))] [] := by
    intro fu
    induction fu with
    | zero => intro k Hx hm; exact absurd hm (Nat.not_lt_zero _)
    | succ fu ih3 =>
      intro k Hx hm hk hA1 hA2 h3
      refine g_iload (pc := 3) (pl := 4) X dX9_lays_3 rfl ?_
      refine g_sipush (pc := 5) X dX9_lays_5 (by decide +kernel) ?_
      refine g_icmp_ge (pc := 8) X 29 dX9_lays_8 (by decide) (by omega) (by omega) (fun c8 => ?_) (fun c8 => ?_)
      · skip
        refine g_vret (pc := 29) X R hH dX9_lays_29 ?_
        obtain rfl : k = 1405 := by omega
        exact ⟨hA2, h3⟩
      · skip
        refine g_aload_n (pc := 11) (pl := 2) X dX9_lays_11 rfl ?_
        refine g_iload_n (pc := 12) (pl := 3) X dX9_lays_12 rfl ?_
        refine g_iload (pc := 13) (pl := 4) X dX9_lays_13 rfl ?_
        refine g_iadd (pc := 15) X dX9_lays_15 ?_
        refine g_aload_n (pc := 16) (pl := 0) X dX9_lays_16 rfl ?_
        refine g_iload_n (pc := 17) (pl := 1) X dX9_lays_17 rfl ?_
        refine g_iload (pc := 18) (pl := 4) X dX9_lays_18 rfl ?_
        refine g_iadd (pc := 20) X dX9_lays_20 ?_
        refine g_iaload (pc := 21) X hA1 (by omega) (by omega) (by omega) dX9_lays_21 ?_
        refine g_iastore (pc := 22) X hA2 (by omega) (by omega) (by omega) (by omega) dX9_lays_22 (fun H1 hA2n hf1 => ?_)
        replace hA1 := hA1.fr hf1 (by omega)
        replace hA2 := hA2n
        clear hA2n
        refine g_iinc (pc := 23) (pl := 4) (x := k) (lv' := [(4, _), (0, _), (1, _), (2, _), (3, _)]) X dX9_lays_23 rfl (by decide) rfl ?_
        refine g_goto (pc := 26) X 3 dX9_lays_26 (by decide) ?_
        refine G.pick [1, 2, 3, 4, 0] (lv' := [(0, _), (1, _), (2, _), (3, _), (4, _)]) rfl ?_
        rw [lyF_step hk.1] at hA2
        exact ih3 (k + 1) H1 (by omega) (by omega) hA1 hA2 (Fr.trans (h3.wide (by omega) (by omega)) (hf1.wide (by omega) (by omega)))
  refine G.pick [1, 2, 3, 4, 0] (lv' := [(0, _), (1, _), (2, _), (3, _), (4, _)]) rfl ?_
  have hA3 := hA2
  rw [lyF_0 (f1 := f1) (f2 := f2) (o1 := o1) (o2 := o2)] at hA3
  exact hL3 _ 0 H (Nat.lt_succ_self _) (by omega) hA1 hA3 (Fr.refl _ _)

abbrev rm_X9_records : Room := { frames := 1, cells := 0, slots := 0, locals := 24 }
theorem zF_X9_records_49 : zF RX9 wsX9_records 9 2 49 := ⟨RX9, TX9, 17, rfl, by decide +kernel, by decide, by decide +kernel⟩
theorem zF_X9_records_7 : zF RX9 wsX9_records 9 0 7 := ⟨RX9, TX9, 17, rfl, by decide +kernel, by decide, by decide +kernel⟩
theorem zF_X9_records_13 : zF RX9 wsX9_records 9 1 13 := ⟨RX9, TX9, 17, rfl, by decide +kernel, by decide, by decide +kernel⟩
theorem cs_X9_records_53 : zCJ RX9 wsX9_records 53 yX9_lays wsX9_lays cX9_lays 5 none rm_X9_records rm_X9_lays 4 := ⟨_, gX9_records_X9_lays, rfl, ⟨by decide +kernel, by decide +kernel, by decide +kernel⟩, ⟨Nat.le_of_ble_eq_true rfl, Nat.le_of_ble_eq_true rfl⟩⟩
theorem zW_X9_records_49 : zW RX9 wsX9_records 9 2 49 false (tyX9 2) := ⟨RX9, TX9, 17, tyX9, rfl, by decide +kernel, by decide, by decide +kernel, tyX9_ok, nmX9, rfl, rfl, rfl⟩
set_option maxRecDepth 100000 in
theorem c_X9_records (l : Launch) (D : zD) (base : Nat) (y : Nat) (kp pd at' od fi la pc : Int) (f : Int → Int) (ps : Int → Int) (hq : base ≤ y) (hkp : 0 ≤ kp ∧ kp ≤ 6) : Ct l yX9_records wsX9_records rm_X9_records D base [.ref y] (fun H => MoO D y kp pd at' od fi la pc H ∧ NwAt D y f H ∧ Ia D (y + 2) 8430 ps H) (PV (fun H H1 => MoO D y (hpN kp) pd at' od fi la pc H1 ∧ NwAt D y f H1 ∧ (∃ ps2 : Int → Int, Ia D (y + 2) 8430 ps2 H1 ∧ (∀ i j : Int, 0 ≤ i → i < hpN kp → 0 ≤ j → j < 1405 → ps2 (1405 * i + j) = hpS kp (fun i j => ps (1405 * i + j)) f i j)) ∧ Fr (Iv y (y + 3)) 0 H H1)) := by
  refine Ct.of (own := RX9) (cc := cX9_records) (maxL := 2) (by decide +kernel) rfl (Nat.le_of_ble_eq_true rfl) rfl ?_
  intro K H X R hH hnm hP
  show G K 0 0 H 0 [(0, .ref y)] []
  obtain ⟨hO, hNw, hPs⟩ := hP
  refine g_aload_n (pc := 0) (pl := 0) X dX9_records_0 rfl ?_
  refine g_getf (pc := 1) X zF_X9_records_49 hO rfl dX9_records_1 ?_
  refine g_bipush (pc := 4) X dX9_records_4 (by decide +kernel) ?_
  refine g_icmp_ne (pc := 6) X 50 dX9_records_6 (by decide) (by omega) (by omega) (fun c6 => ?_) (fun c6 => ?_)
  · skip
    refine g_aload_n (pc := 50) (pl := 0) X dX9_records_50 rfl ?_
    refine g_getf (pc := 51) X zF_X9_records_7 hO rfl dX9_records_51 ?_
    refine g_iconst (pc := 54) X dX9_records_54 ?_
    refine g_aload_n (pc := 55) (pl := 0) X dX9_records_55 rfl ?_
    refine g_getf (pc := 56) X zF_X9_records_13 hO rfl dX9_records_56 ?_
    refine g_sipush (pc := 59) X dX9_records_59 (by decide +kernel) ?_
    refine g_aload_n (pc := 62) (pl := 0) X dX9_records_62 rfl ?_
    refine g_getf (pc := 63) X zF_X9_records_49 hO rfl dX9_records_63 ?_
    refine g_imul (pc := 66) X dX9_records_66 ?_
    have hIa : Ia D (y + 1) 1405 f H := hNw
    have hIb : Ia D (y + 2) 8430 ps H := hPs
    refine gJv (pc := 67) (n2 := 0) (k2 := 0) X cs_X9_records_53 (c_X9_lays (zl K) D base (y + 1) (y + 2) 1405 8430 0 (1405 * kp) f ps (by omega) (by omega) (by omega) (by omega)) rfl (by have := hO.lt; omega) ⟨hIa, hIb⟩ rfl ⟨Nat.le_of_ble_eq_true rfl, Nat.le_of_ble_eq_true rfl⟩ dX9_records_67 (Nat.le_of_ble_eq_true rfl) rfl rfl (fun H1 hp67 hs67 => ?_)
    obtain ⟨hIn, hfl⟩ := hp67
    clear hIa hIb
    replace hO := hO.fr hfl (by omega)
    replace hNw := hNw.fr hfl (by omega)
    clear hPs
    have hPs := hIn
    clear hIn
    refine g_aload_n (pc := 70) (pl := 0) X dX9_records_70 rfl ?_
    refine g_dup (pc := 71) X dX9_records_71 rfl ?_
    refine g_getf (pc := 72) X zF_X9_records_49 hO rfl dX9_records_72 ?_
    refine g_iconst (pc := 75) X dX9_records_75 ?_
    refine g_iadd (pc := 76) X dX9_records_76 ?_
    refine g_putf (pc := 77) X zW_X9_records_49 hO (by omega) rfl rfl rfl dX9_records_77 (fun H2 hOn hf2 => ?_)
    replace hNw := hNw.fr hf2 (by omega)
    replace hPs := hPs.fr hf2 (by omega)
    replace hO : Ob D y 9 [.ref (y + 1), .ref (y + 2), .int (J (kp + 1)), .ref (y + 3), .ref (y + 4), .ref (y + 5), .int (J pd), .int (J at'), .ref (y + 6), .int (J od), .int (J fi), .int (J la), .int (J pc), .ref (y + 7), .ref (y + 8), .ref (y + 9), .ref (y + 10)] H2 := hOn
    clear hOn
    refine g_vret (pc := 80) X R hH dX9_records_80 ?_
    have eN : kp + 1 = hpN kp := by unfold hpN; rw [if_pos (by omega)]
    have hO2 : MoO D y (hpN kp) pd at' od fi la pc H2 := by rw [← eN]; exact hO
    refine ⟨hO2, hNw, ⟨_, hPs, fun i j i0 i1 j0 j1 => ?_⟩, (Fr.trans (hfl.wide (by omega) (by omega)) (hf2.wide (by omega) (by omega)))⟩
    unfold lyF hpS
    rw [if_pos (show kp < 6 by omega)]
    by_cases c : i = kp
    · rw [if_pos (by omega), if_pos c]; exact congrArg f (by omega)
    · rw [if_neg (by omega), if_neg c]
  · skip
    refine g_iconst (pc := 9) X dX9_records_9 ?_
    refine g_istore_n (pc := 10) (lv' := [(1, _), (0, _)]) X dX9_records_10 (by decide) rfl ?_
    have hL11 : ∀ (fu : Nat) (x : Int) (Hx : Heap), (7025 - x).toNat < fu → (0 ≤ x ∧ x ≤ 7025) → (MoO D y kp pd at' od fi la pc Hx) → (NwAt D y f Hx) → (Ia D (y + 2) 8430 (fun j => if j < x then ps (j + 1405) else ps j) Hx) → (Fr (Iv y (y + 3)) 0 H Hx) → G K 0 0 Hx 11 [(0, .ref y), (1, .int (J x))] [] := by
      intro fu
      induction fu with
      | zero => intro x Hx hm; exact absurd hm (Nat.not_lt_zero _)
      | succ fu ih11 =>
        intro x Hx hm hx hO hNw hPs h3
        refine g_iload_n (pc := 11) (pl := 1) X dX9_records_11 rfl ?_
        refine g_sipush (pc := 12) X dX9_records_12 (by decide +kernel) ?_
        refine g_icmp_ge (pc := 15) X 40 dX9_records_15 (by decide) (by omega) (by omega) (fun c15 => ?_) (fun c15 => ?_)
        · skip
          obtain rfl : x = 7025 := by omega
          refine g_aload_n (pc := 40) (pl := 0) X dX9_records_40 rfl ?_
          refine g_dup (pc := 41) X dX9_records_41 rfl ?_
          refine g_getf (pc := 42) X zF_X9_records_49 hO rfl dX9_records_42 ?_
          refine g_iconst (pc := 45) X dX9_records_45 ?_
          refine g_isub (pc := 46) X dX9_records_46 ?_
          refine g_putf (pc := 47) X zW_X9_records_49 hO (by omega) rfl rfl rfl dX9_records_47 (fun H1 hOn hf1 => ?_)
          replace hNw := hNw.fr hf1 (by omega)
          replace hPs := hPs.fr hf1 (by omega)
          replace hO : Ob D y 9 [.ref (y + 1), .ref (y + 2), .int (J (kp - 1)), .ref (y + 3), .ref (y + 4), .ref (y + 5), .int (J pd), .int (J at'), .ref (y + 6), .int (J od), .int (J fi), .int (J la), .int (J pc), .ref (y + 7), .ref (y + 8), .ref (y + 9), .ref (y + 10)] H1 := hOn
          clear hOn
          refine g_aload_n (pc := 50) (pl := 0) X dX9_records_50 rfl ?_
          refine g_getf (pc := 51) X zF_X9_records_7 hO rfl dX9_records_51 ?_
          refine g_iconst (pc := 54) X dX9_records_54 ?_
          refine g_aload_n (pc := 55) (pl := 0) X dX9_records_55 rfl ?_
          refine g_getf (pc := 56) X zF_X9_records_13 hO rfl dX9_records_56 ?_
          refine g_sipush (pc := 59) X dX9_records_59 (by decide +kernel) ?_
          refine g_aload_n (pc := 62) (pl := 0) X dX9_records_62 rfl ?_
          refine g_getf (pc := 63) X zF_X9_records_49 hO rfl dX9_records_63 ?_
          refine g_imul (pc := 66) X dX9_records_66 ?_
          have hIa : Ia D (y + 1) 1405 f H1 := hNw
          have hIb : Ia D (y + 2) 8430 (fun j => if j < 7025 then ps (j + 1405) else ps j) H1 := hPs
          refine gJv (pc := 67) (n2 := 0) (k2 := 0) X cs_X9_records_53 (c_X9_lays (zl K) D base (y + 1) (y + 2) 1405 8430 0 (1405 * (kp - 1)) f (fun j => if j < 7025 then ps (j + 1405) else ps j) (by omega) (by omega) (by omega) (by omega)) rfl (by have := hO.lt; omega) ⟨hIa, hIb⟩ rfl ⟨Nat.le_of_ble_eq_true rfl, Nat.le_of_ble_eq_true rfl⟩ dX9_records_67 (Nat.le_of_ble_eq_true rfl) rfl rfl (fun H2 hp67 hs67 => ?_)
          obtain ⟨hIn, hfl⟩ := hp67
          clear hIa hIb
          replace hO := hO.fr hfl (by omega)
          replace hNw := hNw.fr hfl (by omega)
          clear hPs
          have hPs := hIn
          clear hIn
          refine g_aload_n (pc := 70) (pl := 0) X dX9_records_70 rfl ?_
          refine g_dup (pc := 71) X dX9_records_71 rfl ?_
          refine g_getf (pc := 72) X zF_X9_records_49 hO rfl dX9_records_72 ?_
          refine g_iconst (pc := 75) X dX9_records_75 ?_
          refine g_iadd (pc := 76) X dX9_records_76 ?_
          refine g_putf (pc := 77) X zW_X9_records_49 hO (by omega) rfl rfl rfl dX9_records_77 (fun H3 hOn hf3 => ?_)
          replace hNw := hNw.fr hf3 (by omega)
          replace hPs := hPs.fr hf3 (by omega)
          replace hO : Ob D y 9 [.ref (y + 1), .ref (y + 2), .int (J ((kp - 1) + 1)), .ref (y + 3), .ref (y + 4), .ref (y + 5), .int (J pd), .int (J at'), .ref (y + 6), .int (J od), .int (J fi), .int (J la), .int (J pc), .ref (y + 7), .ref (y + 8), .ref (y + 9), .ref (y + 10)] H3 := hOn
          clear hOn
          refine g_vret (pc := 80) X R hH dX9_records_80 ?_
          have eN : (kp - 1) + 1 = hpN kp := by unfold hpN; rw [if_neg (by omega)]; omega
          have hO2 : MoO D y (hpN kp) pd at' od fi la pc H3 := by rw [← eN]; exact hO
          refine ⟨hO2, hNw, ⟨_, hPs, fun i j i0 i1 j0 j1 => ?_⟩, (Fr.trans (h3.wide (by omega) (by omega)) (Fr.trans (hf1.wide (by omega) (by omega)) (Fr.trans (hfl.wide (by omega) (by omega)) (hf3.wide (by omega) (by omega)))))⟩
          unfold lyF hpS
          rw [if_neg (show ¬ kp < 6 by omega)]
          by_cases c : i = 5
          · rw [if_pos (by omega), if_pos c]; exact congrArg f (by omega)
          · rw [if_neg (by omega), if_neg c]; exact (if_pos (by omega)).trans (congrArg ps (by omega))
        · skip
          refine g_aload_n (pc := 18) (pl := 0) X dX9_records_18 rfl ?_
          refine g_getf (pc := 19) X zF_X9_records_13 hO rfl dX9_records_19 ?_
          refine g_iload_n (pc := 22) (pl := 1) X dX9_records_22 rfl ?_
          refine g_aload_n (pc := 23) (pl := 0) X dX9_records_23 rfl ?_
          refine g_getf (pc := 24) X zF_X9_records_13 hO rfl dX9_records_24 ?_
          refine g_iload_n (pc := 27) (pl := 1) X dX9_records_27 rfl ?_
          refine g_sipush (pc := 28) X dX9_records_28 (by decide +kernel) ?_
          refine g_iadd (pc := 31) X dX9_records_31 ?_
          refine g_iaload (pc := 32) X hPs (by omega) (by omega) (by omega) dX9_records_32 ?_
          refine g_iastore (pc := 33) X hPs (by omega) (by omega) (by omega) (by omega) dX9_records_33 (fun H1 hPsn hf1 => ?_)
          replace hO := hO.fr hf1 (by omega)
          replace hNw := hNw.fr hf1 (by omega)
          replace hPs := hPsn
          clear hPsn
          refine g_iinc (pc := 34) (pl := 1) (x := x) (lv' := [(1, _), (0, _)]) X dX9_records_34 rfl (by decide) rfl ?_
          refine g_goto (pc := 37) X 11 dX9_records_37 (by decide) ?_
          refine G.pick [1, 0] (lv' := [(0, _), (1, _)]) rfl ?_
          rw [show (if x + 1405 < x then ps (x + 1405 + 1405) else ps (x + 1405)) = ps (x + 1405) from if_neg (by omega), shl_step] at hPs
          exact ih11 (x + 1) H1 (by omega) (by omega) hO hNw hPs (Fr.trans (h3.wide (by omega) (by omega)) (hf1.wide (by omega) (by omega)))
    refine G.pick [1, 0] (lv' := [(0, _), (1, _)]) rfl ?_
    skip
    exact hL11 _ 0 H (Nat.lt_succ_self _) (by omega) hO hNw (Ia.congr hPs (fun i i0 i1 => (if_neg (by omega)).symm)) (Fr.refl _ _)

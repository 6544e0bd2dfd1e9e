theorem rpG_up {f : Int → Int} {n : Int} (h : 0 ≤ f 1) : up (up (up f (125 + 80 * f 1 + 0) n) (125 + 80 * f 1 + 1) 0) 1 (f 1 + 1) = up (up (up f (126 + 80 * f 1) 0) (125 + 80 * f 1) n) 1 (f 1 + 1) := by
  funext j
  unfold up
  by_cases c : j = 1
  · rw [if_pos c, if_pos c]
  · rw [if_neg c, if_neg c]
    by_cases c1 : j = 125 + 80 * f 1
    · rw [if_neg (by omega), if_pos (by omega), if_pos c1]
    · rw [if_neg c1]
      by_cases c2 : j = 126 + 80 * f 1
      · rw [if_pos (by omega), if_pos c2]
      · rw [if_neg (by omega), if_neg c2, if_neg (by omega)]
theorem rpR_may {f : Int → Int} {n z : Int} (h : (if ¬ isN f n then -1 else if 16 ≤ f 1 then -4 else 0) = z) : (z = 0 ∧ isN f n ∧ f 1 < 16 ∧ rpR f n = f 1) ∨ (z < 0 ∧ rpR f n = z) := by
  unfold rpR
  by_cases c1 : ¬ isN f n
  · rw [if_pos c1] at h ⊢; omega
  · rw [if_neg c1] at h ⊢
    have c2 := Decidable.not_not.mp c1
    by_cases c3 : 16 ≤ f 1
    · rw [if_pos c3] at h ⊢; omega
    · rw [if_neg c3] at h ⊢
      exact Or.inl ⟨h.symm, c2, by omega, rfl⟩

abbrev rm_X9_replies : Room := { frames := 0, cells := 0, slots := 0, locals := 0 }
theorem zF_X9_replies_7 : zF RX9 wsX9_replies 9 0 7 := ⟨RX9, TX9, 17, rfl, by decide +kernel, by decide, by decide +kernel⟩
set_option maxRecDepth 100000 in
theorem c_X9_replies (l : Launch) (D : zD) (base : Nat) (y : Nat) (kp pd at' od fi la pc : Int) (f : Int → Int) (n : Int) (hq : base ≤ y) (hp : 0 ≤ f 1 ∧ f 1 < 16) : Ct l yX9_replies wsX9_replies rm_X9_replies D base [.ref y, .int (J n)] (fun H => MoO D y kp pd at' od fi la pc H ∧ NwAt D y f H) (PI (fun H v H1 => f 1 = v ∧ MoO D y kp pd at' od fi la pc H1 ∧ NwAt D y (up (up (up f (126 + 80 * f 1) 0) (125 + 80 * f 1) n) 1 (f 1 + 1)) H1 ∧ Fr (Iv (y + 1) (y + 2)) 0 H H1)) := by
  refine Ct.of (own := RX9) (cc := cX9_replies) (maxL := 3) (by decide +kernel) rfl (Nat.le_of_ble_eq_true rfl) rfl ?_
  intro K H X R hH hnm hP
  show G K 0 0 H 0 [(0, .ref y), (1, .int (J n))] []
  obtain ⟨hO, hNw⟩ := hP
  refine g_aload_n (pc := 0) (pl := 0) X dX9_replies_0 rfl ?_
  refine g_getf (pc := 1) X zF_X9_replies_7 hO rfl dX9_replies_1 ?_
  refine g_iconst (pc := 4) X dX9_replies_4 ?_
  refine g_iaload (pc := 5) X hNw (by omega) (by omega) (by omega) dX9_replies_5 ?_
  refine g_istore_n (pc := 6) (lv' := [(2, _), (0, _), (1, _)]) X dX9_replies_6 (by decide) rfl ?_
  refine g_aload_n (pc := 7) (pl := 1) X dX9_replies_7 rfl ?_
  refine g_getf (pc := 8) X zF_X9_replies_7 hO rfl dX9_replies_8 ?_
  refine g_bipush (pc := 11) X dX9_replies_11 (by decide +kernel) ?_
  refine g_bipush (pc := 13) X dX9_replies_13 (by decide +kernel) ?_
  refine g_iload_n (pc := 15) (pl := 0) X dX9_replies_15 rfl ?_
  refine g_imul (pc := 16) X dX9_replies_16 ?_
  refine g_iadd (pc := 17) X dX9_replies_17 ?_
  refine g_iconst (pc := 18) X dX9_replies_18 ?_
  refine g_iadd (pc := 19) X dX9_replies_19 ?_
  refine g_iload_n (pc := 20) (pl := 2) X dX9_replies_20 rfl ?_
  refine g_iastore (pc := 21) X hNw (by omega) (by omega) (by omega) (by omega) dX9_replies_21 (fun H1 hNwn hf1 => ?_)
  replace hO := hO.fr hf1 (by omega)
  replace hNw := hNwn
  clear hNwn
  refine g_aload_n (pc := 22) (pl := 1) X dX9_replies_22 rfl ?_
  refine g_getf (pc := 23) X zF_X9_replies_7 hO rfl dX9_replies_23 ?_
  refine g_bipush (pc := 26) X dX9_replies_26 (by decide +kernel) ?_
  refine g_bipush (pc := 28) X dX9_replies_28 (by decide +kernel) ?_
  refine g_iload_n (pc := 30) (pl := 0) X dX9_replies_30 rfl ?_
  refine g_imul (pc := 31) X dX9_replies_31 ?_
  refine g_iadd (pc := 32) X dX9_replies_32 ?_
  refine g_iconst (pc := 33) X dX9_replies_33 ?_
  refine g_iadd (pc := 34) X dX9_replies_34 ?_
  refine g_iconst (pc := 35) X dX9_replies_35 ?_
  refine g_iastore (pc := 36) X hNw (by omega) (by omega) (by omega) (by omega) dX9_replies_36 (fun H2 hNwn hf2 => ?_)
  replace hO := hO.fr hf2 (by omega)
  replace hNw := hNwn
  clear hNwn
  refine g_aload_n (pc := 37) (pl := 1) X dX9_replies_37 rfl ?_
  refine g_getf (pc := 38) X zF_X9_replies_7 hO rfl dX9_replies_38 ?_
  refine g_iconst (pc := 41) X dX9_replies_41 ?_
  refine g_dup2 (pc := 42) X dX9_replies_42 rfl rfl ?_
  refine g_iaload (pc := 43) X hNw (by omega) (by omega) (by omega) dX9_replies_43 ?_
  rw [show (up (up f ((125 + (80 * (f 1))) + 0) n) ((125 + (80 * (f 1))) + 1) 0) 1 = f 1 from ((if_neg (by omega)).trans (if_neg (by omega)))]
  refine g_iconst (pc := 44) X dX9_replies_44 ?_
  refine g_iadd (pc := 45) X dX9_replies_45 ?_
  refine g_iastore (pc := 46) X hNw (by omega) (by omega) (by omega) (by omega) dX9_replies_46 (fun H3 hNwn hf3 => ?_)
  replace hO := hO.fr hf3 (by omega)
  replace hNw := hNwn
  clear hNwn
  refine g_iload_n (pc := 47) (pl := 0) X dX9_replies_47 rfl ?_
  refine g_iret (pc := 48) X R hH dX9_replies_48 ?_
  rw [rpG_up hp.1] at hNw
  exact ⟨rfl, hO, hNw, (Fr.trans (hf1.wide (by omega) (by omega)) (Fr.trans (hf2.wide (by omega) (by omega)) (hf3.wide (by omega) (by omega))))⟩

abbrev rm_X9_reply : Room := { frames := 3, cells := 0, slots := 0, locals := 64 }
theorem cs_X9_reply_143 : zCV RX9 wsX9_reply 143 9 yX9_mayReply wsX9_mayReply cX9_mayReply 2 (some .int) rm_X9_reply rm_X9_mayReply 1 := ⟨_, _, gX9_reply_X9_mayReply, rfl, ⟨by decide +kernel, by decide +kernel, by decide +kernel⟩, ⟨Nat.le_of_ble_eq_true rfl, Nat.le_of_ble_eq_true rfl⟩, rfl, rfl⟩
theorem cs_X9_reply_57 : zCV RX9 wsX9_reply 57 9 yX9_records wsX9_records cX9_records 2 none rm_X9_reply rm_X9_records 0 := ⟨_, _, gX9_reply_X9_records, rfl, ⟨by decide +kernel, by decide +kernel, by decide +kernel⟩, ⟨Nat.le_of_ble_eq_true rfl, Nat.le_of_ble_eq_true rfl⟩, rfl, rfl⟩
theorem cs_X9_reply_146 : zCV RX9 wsX9_reply 146 9 yX9_replies wsX9_replies cX9_replies 3 (some .int) rm_X9_reply rm_X9_replies 1 := ⟨_, _, gX9_reply_X9_replies, rfl, ⟨by decide +kernel, by decide +kernel, by decide +kernel⟩, ⟨Nat.le_of_ble_eq_true rfl, Nat.le_of_ble_eq_true rfl⟩, rfl, rfl⟩
set_option maxRecDepth 100000 in
theorem c_X9_reply (l : Launch) (D : zD) (base : Nat) (y : Nat) (kp pd at' od fi la pc : Int) (f : Int → Int) (st : Int → Int → Int) (n : Int) (hq : base ≤ y) (hI : PInv f) (hkp : 0 ≤ kp ∧ kp ≤ 6) (hn : rg n) : Ct l yX9_reply wsX9_reply rm_X9_reply D base [.ref y, .int (J n)] (fun H => MoO D y kp pd at' od fi la pc H ∧ NwAt D y f H ∧ PaAt D y kp st H) (PI (fun H v H1 => rpR f n = v ∧ NwAt D y (rpG f n) H1 ∧ MoO D y (hsN kp (rpR f n)) pd at' od fi la pc H1 ∧ PaAt D y (hsN kp (rpR f n)) (hsS kp (rpR f n) st f) H1 ∧ Fr (Iv y (y + 3)) 0 H H1)) := by
  refine Ct.of (own := RX9) (cc := cX9_reply) (maxL := 3) (by decide +kernel) rfl (Nat.le_of_ble_eq_true rfl) rfl ?_
  intro K H X R hH hnm hP
  show G K 0 0 H 0 [(0, .ref y), (1, .int (J n))] []
  obtain ⟨hO, hNw, hPa⟩ := hP
  have hnum := hI.nums
  refine g_aload_n (pc := 0) (pl := 0) X dX9_reply_0 rfl ?_
  refine g_iload_n (pc := 1) (pl := 1) X dX9_reply_1 rfl ?_
  refine gVi (pc := 2) (n2 := 0) (k2 := 0) X cs_X9_reply_143 (c_X9_mayReply (zl K) D base y kp pd at' od fi la pc f n hq hI hn) rfl hO (by omega) ⟨hO, hNw⟩ rfl ⟨Nat.le_of_ble_eq_true rfl, Nat.le_of_ble_eq_true rfl⟩ dX9_reply_2 (Nat.le_of_ble_eq_true rfl) rfl rfl (fun v2 H1 hp2 hs2 => ?_)
  obtain ⟨rfl, hz⟩ := hp2
  have hm := rpR_may hz
  refine g_istore_n (pc := 5) (lv' := [(2, _), (0, _), (1, _)]) X dX9_reply_5 (by decide) rfl ?_
  refine g_iload_n (pc := 6) (pl := 0) X dX9_reply_6 rfl ?_
  refine g_if_eq (pc := 7) X 12 dX9_reply_7 (by decide) (by omega) (fun c7 => ?_) (fun c7 => ?_)
  · skip
    refine g_aload_n (pc := 12) (pl := 1) X dX9_reply_12 rfl ?_
    obtain ⟨ps, hPs, hst⟩ := id hPa
    refine gVv (pc := 13) (n2 := 0) (k2 := 0) X cs_X9_reply_57 (c_X9_records (zl K) D base y kp pd at' od fi la pc f ps hq hkp) rfl hO (by omega) ⟨hO, hNw, hPs⟩ rfl ⟨Nat.le_of_ble_eq_true rfl, Nat.le_of_ble_eq_true rfl⟩ dX9_reply_13 (Nat.le_of_ble_eq_true rfl) rfl rfl (fun H1 hp13 hs13 => ?_)
    obtain ⟨hOn, hNwn, ⟨ps2, hPs2, hr2⟩, hfr⟩ := hp13
    have hPan : PaAt D y (hpN kp) (hpS kp st f) H1 := ⟨ps2, hPs2, hpS_rec hkp hst hr2⟩
    clear hO hNw hPa hPs
    have hO := hOn
    have hNw := hNwn
    have hPa := hPan
    clear hOn hNwn hPan hPs2
    refine g_aload_n (pc := 16) (pl := 1) X dX9_reply_16 rfl ?_
    refine g_iload_n (pc := 17) (pl := 2) X dX9_reply_17 rfl ?_
    refine gVi (pc := 18) (n2 := 0) (k2 := 0) X cs_X9_reply_146 (c_X9_replies (zl K) D base y (hpN kp) pd at' od fi la pc f n hq (by omega)) rfl hO (by omega) ⟨hO, hNw⟩ rfl ⟨Nat.le_of_ble_eq_true rfl, Nat.le_of_ble_eq_true rfl⟩ dX9_reply_18 (Nat.le_of_ble_eq_true rfl) rfl rfl (fun v18 H2 hp18 hs18 => ?_)
    obtain ⟨rfl, hOn, hNwn, hfc⟩ := hp18
    replace hO := hO.fr hfc (by omega)
    replace hPa := hPa.fr hfc (by omega)
    clear hO hNw
    have hO := hOn
    have hNw := hNwn
    refine g_iret (pc := 21) X R hH dX9_reply_21 ?_
    have er : rpR f n = f 1 := by omega
    have eg : rpG f n = up (up (up f (126 + 80 * f 1) 0) (125 + 80 * f 1) n) 1 (f 1 + 1) := if_neg (by omega)
    rw [er, eg]
    rw [show hsN kp (f 1) = hpN kp from if_neg (by omega), show hsS kp (f 1) st f = hpS kp st f from if_neg (by omega)]
    exact ⟨rfl, hNw, hO, hPa, (Fr.trans (hfr.wide (by omega) (by omega)) (hfc.wide (by omega) (by omega)))⟩
  · skip
    refine g_iload_n (pc := 10) (pl := 0) X dX9_reply_10 rfl ?_
    refine g_iret (pc := 11) X R hH dX9_reply_11 ?_
    have er : rpR f n = v2 := by omega
    rw [er]
    rw [show hsN kp (v2) = kp from if_pos (by omega), show hsS kp (v2) st f = st from if_pos (by omega)]
    exact ⟨rfl, by rw [show rpG f n = f from if_pos (by omega)]; exact hNw, hO, hPa, Fr.refl _ _⟩

abbrev rm_X9_wipe : Room := { frames := 0, cells := 0, slots := 0, locals := 0 }
theorem zF_X9_wipe_186 : zF RX9 wsX9_wipe 9 6 186 := ⟨RX9, TX9, 17, rfl, by decide +kernel, by decide, by decide +kernel⟩
theorem zW_X9_wipe_186 : zW RX9 wsX9_wipe 9 6 186 false (tyX9 6) := ⟨RX9, TX9, 17, tyX9, rfl, by decide +kernel, by decide, by decide +kernel, tyX9_ok, nmX9, rfl, rfl, rfl⟩
set_option maxRecDepth 100000 in
theorem c_X9_wipe (l : Launch) (D : zD) (base : Nat) (y : Nat) (kp pd at' od fi la pc : Int) (f : Int → Int) (hq : base ≤ y) : Ct l yX9_wipe wsX9_wipe rm_X9_wipe D base [.ref y] (fun H => MoO D y kp pd at' od fi la pc H ∧ NwAt D y f H) (PI (fun H v H1 => pd = v ∧ MoO D y kp 0 at' od fi la pc H1 ∧ NwAt D y f H1 ∧ Fr (Iv y (y + 1)) 0 H H1)) := by
  refine Ct.of (own := RX9) (cc := cX9_wipe) (maxL := 2) (by decide +kernel) rfl (Nat.le_of_ble_eq_true rfl) rfl ?_
  intro K H X R hH hnm hP
  show G K 0 0 H 0 [(0, .ref y)] []
  obtain ⟨hO, hNw⟩ := hP
  refine g_aload_n (pc := 0) (pl := 0) X dX9_wipe_0 rfl ?_
  refine g_getf (pc := 1) X zF_X9_wipe_186 hO rfl dX9_wipe_1 ?_
  refine g_istore_n (pc := 4) (lv' := [(1, _), (0, _)]) X dX9_wipe_4 (by decide) rfl ?_
  refine g_aload_n (pc := 5) (pl := 1) X dX9_wipe_5 rfl ?_
  refine g_iconst (pc := 6) X dX9_wipe_6 ?_
  refine g_putf (pc := 7) X zW_X9_wipe_186 hO (by omega) rfl rfl rfl dX9_wipe_7 (fun H1 hOn hf1 => ?_)
  replace hNw := hNw.fr hf1 (by omega)
  replace hO : Ob D y 9 [.ref (y + 1), .ref (y + 2), .int (J kp), .ref (y + 3), .ref (y + 4), .ref (y + 5), .int (J 0), .int (J at'), .ref (y + 6), .int (J od), .int (J fi), .int (J la), .int (J pc), .ref (y + 7), .ref (y + 8), .ref (y + 9), .ref (y + 10)] H1 := hOn
  clear hOn
  refine g_iload_n (pc := 10) (pl := 0) X dX9_wipe_10 rfl ?_
  refine g_iret (pc := 11) X R hH dX9_wipe_11 ?_
  exact ⟨rfl, hO, hNw, (hf1.wide (by omega) (by omega))⟩

abbrev rm_X9_lastLine : Room := { frames := 0, cells := 0, slots := 0, locals := 0 }
theorem zF_X9_lastLine_7 : zF RX9 wsX9_lastLine 9 0 7 := ⟨RX9, TX9, 17, rfl, by decide +kernel, by decide, by decide +kernel⟩
theorem zF_X9_lastLine_29 : zF RX9 wsX9_lastLine 9 13 29 := ⟨RX9, TX9, 17, rfl, by decide +kernel, by decide, by decide +kernel⟩
set_option maxRecDepth 100000 in
theorem c_X9_lastLine (l : Launch) (D : zD) (base : Nat) (y : Nat) (kp pd at' od fi la pc : Int) (f : Int → Int) (L W : Int → Int) (hq : base ≤ y) (hI : PInv f) (hL : ∀ i : Int, 0 ≤ i → i < f 1 → -6 ≤ L i ∧ L i ≤ 100) (hW : ∀ i : Int, 0 ≤ i → i < f 1 → 0 ≤ W i ∧ W i ≤ 100 ∨ L i = -6) : Ct l yX9_lastLine wsX9_lastLine rm_X9_lastLine D base [.ref y] (fun H => MoO D y kp pd at' od fi la pc H ∧ NwAt D y f H ∧ Ia D (y + 7) 16 L H ∧ Ia D (y + 8) 16 W H) (PI (fun H v H1 => H = H1 ∧ mxL L (f 1).toNat = v)) := by
  refine Ct.of (own := RX9) (cc := cX9_lastLine) (maxL := 3) (by decide +kernel) rfl (Nat.le_of_ble_eq_true rfl) rfl ?_
  intro K H X R hH hnm hP
  show G K 0 0 H 0 [(0, .ref y)] []
  obtain ⟨hO, hNw, hLn, hOw⟩ := hP
  have hnum := hI.nums
  refine g_bipush (pc := 0) X dX9_lastLine_0 (by decide +kernel) ?_
  refine g_istore_n (pc := 2) (lv' := [(1, _), (0, _)]) X dX9_lastLine_2 (by decide) rfl ?_
  refine g_iconst (pc := 3) X dX9_lastLine_3 ?_
  refine g_istore_n (pc := 4) (lv' := [(2, _), (1, _), (0, _)]) X dX9_lastLine_4 (by decide) rfl ?_
  have hL5 : ∀ (fu : Nat) (k : Nat) (ki c : Int), (f 1).toNat - k < fu → (ki = (k : Int)) → ((k : Int) ≤ f 1) → (c = mxL L k) → (-6 ≤ c ∧ c ≤ 100) → G K 0 0 H 5 [(0, .ref y), (1, .int (J c)), (2, .int (J ki))] [] := by
    intro fu
    induction fu with
    | zero => intro k ki c hm; exact absurd hm (Nat.not_lt_zero _)
    | succ fu ih5 =>
      intro k ki c hm he h1 hc hb
      subst he
      refine g_iload_n (pc := 5) (pl := 2) X dX9_lastLine_5 rfl ?_
      refine g_aload_n (pc := 6) (pl := 0) X dX9_lastLine_6 rfl ?_
      refine g_getf (pc := 7) X zF_X9_lastLine_7 hO rfl dX9_lastLine_7 ?_
      refine g_iconst (pc := 10) X dX9_lastLine_10 ?_
      refine g_iaload (pc := 11) X hNw (by omega) (by omega) (by omega) dX9_lastLine_11 ?_
      refine g_icmp_ge (pc := 12) X 42 dX9_lastLine_12 (by decide) (by omega) (by omega) (fun c12 => ?_) (fun c12 => ?_)
      · skip
        refine g_iload_n (pc := 42) (pl := 1) X dX9_lastLine_42 rfl ?_
        refine g_iret (pc := 43) X R hH dX9_lastLine_43 ?_
        have ek : (f 1).toNat = k := by omega
        exact ⟨rfl, by rw [ek]; exact hc.symm⟩
      · skip
        have hl := hL (k : Int) (by omega) (by omega)
        refine g_aload_n (pc := 15) (pl := 0) X dX9_lastLine_15 rfl ?_
        refine g_getf (pc := 16) X zF_X9_lastLine_29 hO rfl dX9_lastLine_16 ?_
        refine g_iload_n (pc := 19) (pl := 2) X dX9_lastLine_19 rfl ?_
        refine g_iaload (pc := 20) X hLn (by omega) (by omega) (by omega) dX9_lastLine_20 ?_
        refine g_iload_n (pc := 21) (pl := 1) X dX9_lastLine_21 rfl ?_
        refine g_icmp_le (pc := 22) X 34 dX9_lastLine_22 (by decide) (by omega) (by omega) (fun c22 => ?_) (fun c22 => ?_)
        · skip
          refine g_iload_n (pc := 34) (pl := 1) X dX9_lastLine_34 rfl ?_
          refine g_istore_n (pc := 35) (lv' := [(1, _), (0, _), (2, _)]) X dX9_lastLine_35 (by decide) rfl ?_
          refine g_iinc (pc := 36) (pl := 2) (x := (k : Int)) (lv' := [(2, _), (1, _), (0, _)]) X dX9_lastLine_36 rfl (by decide) rfl ?_
          refine g_goto (pc := 39) X 5 dX9_lastLine_39 (by decide) ?_
          refine G.pick [2, 1, 0] (lv' := [(0, _), (1, _), (2, _)]) rfl ?_
          have q := mxL_s L k
          rw [← hc] at q
          exact ih5 (k + 1) _ _ (by omega) (by omega) (by omega) (by rw [q]; first | exact (if_pos (by omega)).symm | exact (if_neg (by omega)).symm) (by omega)
        · skip
          refine g_aload_n (pc := 25) (pl := 0) X dX9_lastLine_25 rfl ?_
          refine g_getf (pc := 26) X zF_X9_lastLine_29 hO rfl dX9_lastLine_26 ?_
          refine g_iload_n (pc := 29) (pl := 2) X dX9_lastLine_29 rfl ?_
          refine g_iaload (pc := 30) X hLn (by omega) (by omega) (by omega) dX9_lastLine_30 ?_
          refine g_goto (pc := 31) X 35 dX9_lastLine_31 (by decide) ?_
          refine g_istore_n (pc := 35) (lv' := [(1, _), (0, _), (2, _)]) X dX9_lastLine_35 (by decide) rfl ?_
          refine g_iinc (pc := 36) (pl := 2) (x := (k : Int)) (lv' := [(2, _), (1, _), (0, _)]) X dX9_lastLine_36 rfl (by decide) rfl ?_
          refine g_goto (pc := 39) X 5 dX9_lastLine_39 (by decide) ?_
          refine G.pick [2, 1, 0] (lv' := [(0, _), (1, _), (2, _)]) rfl ?_
          have q := mxL_s L k
          rw [← hc] at q
          exact ih5 (k + 1) _ _ (by omega) (by omega) (by omega) (by rw [q]; first | exact (if_pos (by omega)).symm | exact (if_neg (by omega)).symm) (by omega)
  refine G.pick [2, 1, 0] (lv' := [(0, _), (1, _), (2, _)]) rfl ?_
  exact hL5 _ 0 _ _ (Nat.lt_succ_self _) rfl (by omega) rfl (by omega)

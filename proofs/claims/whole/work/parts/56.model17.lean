/-- what may be carried out -/
def myR (f : Int → Int) (s a b c : Int) : Int := if s = 45 then perr f a b else if s = 109 then mverr f a b c else if s = 110 then (if perr f a b < 0 then perr f a b else if 16 ≤ f 1 then -4 else 0) else if s = 114 then (if ¬ isN f a then -1 else if 16 ≤ f 1 then -4 else 0) else if s = 120 then (if isN f a then 0 else -1) else mrR f a
theorem wr_0 {f : Int → Int} {p c : Int} (h : 0 ≤ p ∧ p ≤ f 0 ∧ f 0 < 60) (h2 : ¬ wrR f p c < 0) : MEq (wrG f p c) (cmY f p c 0) := by
  rw [show wrG f p c = cmG f p c 0 from if_neg h2]
  exact cmY_eq ⟨h.1, h.2.1⟩ h.2.2
def LnE (D : zD) (y : Nat) (H : Heap) : Prop := (∃ L : Int → Int, Ia D (y + 7) 16 L H) ∧ (∃ W : Int → Int, Ia D (y + 8) 16 W H) ∧ ∃ Q : Int → Int, Ia D (y + 9) 80 Q H
theorem LnE.fr {D : zD} {y a b d : Nat} {H H' : Heap} (h : LnE D y H) (f : Fr (Iv a b) d H H') (e : y + 10 ≤ a ∨ b ≤ y + 7) : LnE D y H' := by
  obtain ⟨⟨L, h1⟩, ⟨W, h2⟩, ⟨Q, h3⟩⟩ := h
  exact ⟨⟨L, h1.fr f (by omega)⟩, ⟨W, h2.fr f (by omega)⟩, ⟨Q, h3.fr f (by omega)⟩⟩
theorem obP_eq {n : Int} {P : Int → Int} {p kd : Int} {f : Int → Int} (h : itm n P p = kd) : obP n P p f = obK n P kd (oA n P p) (oB n P p) (oC n P p) (oe1 n P p + 1) (ordE n P p) f := by rw [← h]; rfl
theorem mq_obP {n : Int} {P : Int → Int} {p : Int} {g g' : Int → Int} (e : MEq g g') (hI : PInv g) : (obP n P p g).1 = (obP n P p g').1 ∧ MEq (obP n P p g).2 (obP n P p g').2 := mq_ob e hI
theorem PInv.obP' {n : Int} {P : Int → Int} {p : Int} {g : Int → Int} (hI : PInv g) : PInv (obP n P p g).2 := (obK_ok hI).1

abbrev rm_X9_writes : Room := { frames := 2, cells := 0, slots := 0, locals := 44 }
theorem zF_X9_writes_23 : zF RX9 wsX9_writes 9 5 23 := ⟨RX9, TX9, 17, rfl, by decide +kernel, by decide, by decide +kernel⟩
theorem cs_X9_writes_94 : zCV RX9 wsX9_writes 94 9 yX9_mayWrite wsX9_mayWrite cX9_mayWrite 3 (some .int) rm_X9_writes rm_X9_mayWrite 2 := ⟨_, _, gX9_writes_X9_mayWrite, rfl, ⟨by decide +kernel, by decide +kernel, by decide +kernel⟩, ⟨Nat.le_of_ble_eq_true rfl, Nat.le_of_ble_eq_true rfl⟩, rfl, rfl⟩
theorem cs_X9_writes_97 : zCV RX9 wsX9_writes 97 9 yX9_comes wsX9_comes cX9_comes 5 none rm_X9_writes rm_X9_comes 3 := ⟨_, _, gX9_writes_X9_comes, rfl, ⟨by decide +kernel, by decide +kernel, by decide +kernel⟩, ⟨Nat.le_of_ble_eq_true rfl, Nat.le_of_ble_eq_true rfl⟩, rfl, rfl⟩
set_option maxRecDepth 100000 in
theorem c_X9_writes (l : Launch) (D : zD) (base : Nat) (y : Nat) (kp pd at' od fi la pc : Int) (f : Int → Int) (P : Int → Int) (n9 a lf nx : Int) (hq : base ≤ y) (hI : PInv f) (hn9 : 0 ≤ n9 ∧ n9 ≤ 80) (hPr : ∀ i : Int, 0 ≤ i → i < n9 → 33 ≤ P i ∧ P i ≤ 126) (ha : 0 ≤ a ∧ a ≤ 99) (hlf : 0 ≤ lf ∧ lf ≤ nx ∧ nx ≤ n9) : Ct l yX9_writes wsX9_writes rm_X9_writes D base [.ref y, .int (J a), .int (J lf), .int (J (nx - lf))] (fun H => MoO D y kp pd at' od fi la pc H ∧ NwAt D y f H ∧ Ia D (y + 5) 80 P H) (PI (fun H v H1 => ((0 ≤ (wtS n9 P a lf nx 80 lf (0, f)).1 ∧ 1 = v) ∨ ((wtS n9 P a lf nx 80 lf (0, f)).1 < 0 ∧ 0 = v)) ∧ (∃ f2 : Int → Int, MEq (wtS n9 P a lf nx 80 lf (0, f)).2 f2 ∧ NwAt D y f2 H1) ∧ MoO D y kp pd at' od fi la pc H1 ∧ Ia D (y + 5) 80 P H1 ∧ Fr (Iv (y + 1) (y + 2)) 0 H H1)) := by
  refine Ct.of (own := RX9) (cc := cX9_writes) (maxL := 6) (by decide +kernel) rfl (Nat.le_of_ble_eq_true rfl) rfl ?_
  intro K H X R hH hnm hP
  show G K 0 0 H 0 [(0, .ref y), (1, .int (J a)), (2, .int (J lf)), (3, .int (J (nx - lf)))] []
  obtain ⟨hO, hNw, hPd⟩ := hP
  refine g_iconst (pc := 0) X dX9_writes_0 ?_
  refine g_istore (pc := 1) (lv' := [(4, _), (0, _), (1, _), (2, _), (3, _)]) X dX9_writes_1 (by decide) rfl ?_
  have hL3 : ∀ (fu : Nat) (k : Nat) (ki r : Int) (gx fx : Int → Int) (Hx : Heap), (nx - lf).toNat - k < fu → (ki = (k : Int)) → (lf + (k : Int) ≤ nx) → (0 ≤ r) → ((wtS n9 P a lf nx 80 lf (0, f)) = wtS n9 P a lf nx (80 - k) (lf + (k : Int)) (r, gx)) → (MEq gx fx) → (PInv gx) → (MoO D y kp pd at' od fi la pc Hx) → (NwAt D y fx Hx) → (Ia D (y + 5) 80 P Hx) → (Fr (Iv (y + 1) (y + 2)) 0 H Hx) → G K 0 0 Hx 3 [(0, .ref y), (1, .int (J a)), (2, .int (J lf)), (3, .int (J (nx - lf))), (4, .int (J ki))] [] := by
    intro fu
    induction fu with
    | zero => intro k ki r gx fx Hx hm; exact absurd hm (Nat.not_lt_zero _)
    | succ fu ih3 =>
      intro k ki r gx fx Hx hm he h1 hr hw hE hG hO hNw hPd h3
      subst he
      refine g_iload (pc := 3) (pl := 4) X dX9_writes_3 rfl ?_
      refine g_iload_n (pc := 5) (pl := 3) X dX9_writes_5 rfl ?_
      refine g_icmp_ge (pc := 6) X 55 dX9_writes_6 (by decide) (by omega) (by omega) (fun c6 => ?_) (fun c6 => ?_)
      · skip
        refine g_iconst (pc := 55) X dX9_writes_55 ?_
        refine g_zret (pc := 56) X R hH (by first | exact Or.inl rfl | exact Or.inr rfl | omega) dX9_writes_56 ?_
        have hst : wtS n9 P a lf nx (80 - k) (lf + (k : Int)) (r, gx) = (r, gx) := wtS_no _ (fun z => absurd z.1 (by omega))
        rw [hw, hst]
        exact ⟨Or.inl ⟨hr, rfl⟩, ⟨fx, hE, hNw⟩, hO, hPd, (h3.wide (by omega) (by omega))⟩
      · skip
        refine g_aload_n (pc := 9) (pl := 0) X dX9_writes_9 rfl ?_
        refine g_getf (pc := 10) X zF_X9_writes_23 hO rfl dX9_writes_10 ?_
        refine g_iload_n (pc := 13) (pl := 2) X dX9_writes_13 rfl ?_
        refine g_iload (pc := 14) (pl := 4) X dX9_writes_14 rfl ?_
        refine g_iadd (pc := 16) X dX9_writes_16 ?_
        have hpi := hPr (lf + (k : Int)) (by omega) (by omega)
        have eI : itm n9 P (lf + (k : Int)) = P (lf + (k : Int)) := if_pos (by omega)
        have eA : a + (lf + (k : Int)) - lf = a + (k : Int) := by omega
        have e9 : wtS n9 P a lf nx (80 - (k + 1) + 1) (lf + (k : Int)) (r, gx) = wtS n9 P a lf nx (80 - (k + 1)) (lf + (k : Int) + 1) (wrR gx (a + (lf + (k : Int)) - lf) (itm n9 P (lf + (k : Int)) - 97), wrG gx (a + (lf + (k : Int)) - lf) (itm n9 P (lf + (k : Int)) - 97)) := if_pos ⟨by omega, by show 0 ≤ r; omega⟩
        rw [show 80 - (k + 1) + 1 = 80 - k by omega, eI, eA] at e9
        have hq9 := mq_wr hE hG (a + (k : Int)) (P (lf + (k : Int)) - 97)
        have hIx := hG.meq hE
        have hnx := hIx.nums
        refine g_iaload (pc := 17) X hPd (by omega) (by omega) (by omega) dX9_writes_17 ?_
        refine g_bipush (pc := 18) X dX9_writes_18 (by decide +kernel) ?_
        refine g_isub (pc := 20) X dX9_writes_20 ?_
        refine g_istore (pc := 21) (lv' := [(5, _), (0, _), (1, _), (2, _), (3, _), (4, _)]) X dX9_writes_21 (by decide) rfl ?_
        refine g_aload_n (pc := 23) (pl := 1) X dX9_writes_23 rfl ?_
        refine g_iload_n (pc := 24) (pl := 2) X dX9_writes_24 rfl ?_
        refine g_iload (pc := 25) (pl := 5) X dX9_writes_25 rfl ?_
        refine g_iadd (pc := 27) X dX9_writes_27 ?_
        refine g_iload (pc := 28) (pl := 0) X dX9_writes_28 rfl ?_
        refine gVi (pc := 30) (n2 := 0) (k2 := 0) X cs_X9_writes_94 (c_X9_mayWrite (zl K) D base y kp pd at' od fi la pc fx (a + (k : Int)) (P (lf + (k : Int)) - 97) hq hIx (by omega) (by omega)) rfl hO (by omega) ⟨hO, hNw⟩ rfl ⟨Nat.le_of_ble_eq_true rfl, Nat.le_of_ble_eq_true rfl⟩ dX9_writes_30 (Nat.le_of_ble_eq_true rfl) rfl rfl (fun v30 H1 hp30 hs30 => ?_)
        obtain ⟨rfl, hz⟩ := hp30
        have hm := wrR_may hz
        refine g_if_eq (pc := 33) X 38 dX9_writes_33 (by decide) (by omega) (fun c33 => ?_) (fun c33 => ?_)
        · skip
          refine g_aload_n (pc := 38) (pl := 1) X dX9_writes_38 rfl ?_
          refine g_iload_n (pc := 39) (pl := 2) X dX9_writes_39 rfl ?_
          refine g_iload (pc := 40) (pl := 5) X dX9_writes_40 rfl ?_
          refine g_iadd (pc := 42) X dX9_writes_42 ?_
          refine g_iload (pc := 43) (pl := 0) X dX9_writes_43 rfl ?_
          refine g_iconst (pc := 45) X dX9_writes_45 ?_
          have hwr := wr_0 (f := fx) (p := a + (k : Int)) (c := P (lf + (k : Int)) - 97) (by omega) (by omega)
          refine gVv (pc := 46) (n2 := 0) (k2 := 0) X cs_X9_writes_97 (c_X9_comes (zl K) D base y kp pd at' od fi la pc fx (a + (k : Int)) (P (lf + (k : Int)) - 97) 0 hq (by omega)) rfl hO (by omega) ⟨hO, hNw⟩ rfl ⟨Nat.le_of_ble_eq_true rfl, Nat.le_of_ble_eq_true rfl⟩ dX9_writes_46 (Nat.le_of_ble_eq_true rfl) rfl rfl (fun H1 hp46 hs46 => ?_)
          obtain ⟨hOn, hNwn, hfc⟩ := hp46
          replace hPd := hPd.fr hfc (by omega)
          clear hO hNw
          have hO := hOn
          have hNw := hNwn
          clear hOn hNwn
          refine g_iinc (pc := 49) (pl := 5) (x := (k : Int)) (lv' := [(4, _), (5, _), (0, _), (1, _), (2, _), (3, _)]) X dX9_writes_49 rfl (by decide) rfl ?_
          refine g_goto (pc := 52) X 3 dX9_writes_52 (by decide) ?_
          refine G.pick [2, 3, 4, 5, 0] (lv' := [(0, _), (1, _), (2, _), (3, _), (4, _)]) rfl ?_
          have eB : lf + (((k + 1 : Nat)) : Int) = lf + (k : Int) + 1 := by omega
          exact ih3 (k + 1) _ (wrR gx (a + (k : Int)) (P (lf + (k : Int)) - 97)) (wrG gx (a + (k : Int)) (P (lf + (k : Int)) - 97)) _ H1 (by omega) (by omega) (by omega) (by rw [hq9.1]; omega) (by rw [eB]; exact hw.trans e9) (hq9.2.trans hwr) (hG.wr _ _) hO hNw hPd (Fr.trans (h3.wide (by omega) (by omega)) (hfc.wide (by omega) (by omega)))
        · skip
          refine g_iconst (pc := 36) X dX9_writes_36 ?_
          refine g_zret (pc := 37) X R hH (by first | exact Or.inl rfl | exact Or.inr rfl | omega) dX9_writes_37 ?_
          have hneg : wrR gx (a + (k : Int)) (P (lf + (k : Int)) - 97) < 0 := by rw [hq9.1]; omega
          have hst : wtS n9 P a lf nx (80 - (k + 1)) (lf + (k : Int) + 1) (wrR gx (a + (k : Int)) (P (lf + (k : Int)) - 97), wrG gx (a + (k : Int)) (P (lf + (k : Int)) - 97)) = _ := wtS_no _ (fun z => absurd z.2 (Int.not_le.mpr hneg))
          rw [hw, e9, hst]
          exact ⟨Or.inr ⟨hneg, rfl⟩, ⟨fx, by rw [show wrG gx (a + (k : Int)) (P (lf + (k : Int)) - 97) = gx from if_pos hneg]; exact hE, hNw⟩, hO, hPd, (h3.wide (by omega) (by omega))⟩
  refine G.pick [1, 2, 3, 4, 0] (lv' := [(0, _), (1, _), (2, _), (3, _), (4, _)]) rfl ?_
  exact hL3 _ 0 _ 0 f f H (Nat.lt_succ_self _) rfl (by omega) (by omega) (by rw [show lf + ((0 : Nat) : Int) = lf by omega]) (MEq.refl f) hI hO hNw hPd (Fr.refl _ _)

abbrev rm_X9_may : Room := { frames := 4, cells := 0, slots := 0, locals := 94 }
theorem cs_X9_may_112 : zCV RX9 wsX9_may 112 9 yX9_maySpan wsX9_maySpan cX9_maySpan 3 (some .int) rm_X9_may rm_X9_maySpan 2 := ⟨_, _, gX9_may_X9_maySpan, rfl, ⟨by decide +kernel, by decide +kernel, by decide +kernel⟩, ⟨Nat.le_of_ble_eq_true rfl, Nat.le_of_ble_eq_true rfl⟩, rfl, rfl⟩
theorem cs_X9_may_118 : zCV RX9 wsX9_may 118 9 yX9_mayMove wsX9_mayMove cX9_mayMove 5 (some .int) rm_X9_may rm_X9_mayMove 3 := ⟨_, _, gX9_may_X9_mayMove, rfl, ⟨by decide +kernel, by decide +kernel, by decide +kernel⟩, ⟨Nat.le_of_ble_eq_true rfl, Nat.le_of_ble_eq_true rfl⟩, rfl, rfl⟩
theorem cs_X9_may_134 : zCV RX9 wsX9_may 134 9 yX9_mayNote wsX9_mayNote cX9_mayNote 4 (some .int) rm_X9_may rm_X9_mayNote 2 := ⟨_, _, gX9_may_X9_mayNote, rfl, ⟨by decide +kernel, by decide +kernel, by decide +kernel⟩, ⟨Nat.le_of_ble_eq_true rfl, Nat.le_of_ble_eq_true rfl⟩, rfl, rfl⟩
theorem cs_X9_may_143 : zCV RX9 wsX9_may 143 9 yX9_mayReply wsX9_mayReply cX9_mayReply 2 (some .int) rm_X9_may rm_X9_mayReply 1 := ⟨_, _, gX9_may_X9_mayReply, rfl, ⟨by decide +kernel, by decide +kernel, by decide +kernel⟩, ⟨Nat.le_of_ble_eq_true rfl, Nat.le_of_ble_eq_true rfl⟩, rfl, rfl⟩
theorem cs_X9_may_140 : zCV RX9 wsX9_may 140 9 yX9_isNote wsX9_isNote cX9_isNote 2 (some .boolean) rm_X9_may rm_X9_isNote 1 := ⟨_, _, gX9_may_X9_isNote, rfl, ⟨by decide +kernel, by decide +kernel, by decide +kernel⟩, ⟨Nat.le_of_ble_eq_true rfl, Nat.le_of_ble_eq_true rfl⟩, rfl, rfl⟩
theorem cs_X9_may_164 : zCV RX9 wsX9_may 164 9 yX9_mayReclaim wsX9_mayReclaim cX9_mayReclaim 2 (some .int) rm_X9_may rm_X9_mayReclaim 1 := ⟨_, _, gX9_may_X9_mayReclaim, rfl, ⟨by decide +kernel, by decide +kernel, by decide +kernel⟩, ⟨Nat.le_of_ble_eq_true rfl, Nat.le_of_ble_eq_true rfl⟩, rfl, rfl⟩
set_option maxRecDepth 100000 in
theorem c_X9_may (l : Launch) (D : zD) (base : Nat) (y : Nat) (kp pd at' od fi la pc : Int) (f : Int → Int) (s a b c : Int) (hq : base ≤ y) (hI : PInv f) (hs : rg s) (ha : rg a) (hb : s = 45 ∨ s = 109 ∨ s = 110 → rg b) (hc : s = 109 → rg c) : Ct l yX9_may wsX9_may rm_X9_may D base [.ref y, .int (J s), .int (J a), .int (J b), .int (J c)] (fun H => MoO D y kp pd at' od fi la pc H ∧ NwAt D y f H) (PI (fun H v H1 => H = H1 ∧ myR f s a b c = v)) := by
  refine Ct.of (own := RX9) (cc := cX9_may) (maxL := 5) (by decide +kernel) rfl (Nat.le_of_ble_eq_true rfl) rfl ?_
  intro K H X R hH hnm hP
  show G K 0 0 H 0 [(0, .ref y), (1, .int (J s)), (2, .int (J a)), (3, .int (J b)), (4, .int (J c))] []
  obtain ⟨hO, hNw⟩ := hP
  refine g_iload_n (pc := 0) (pl := 1) X dX9_may_0 rfl ?_
  by_cases cs1_0 : s = 45
  · skip
    refine g_lookup (pc := 1) (a := s) (off := 51) X 52 dX9_may_1 (by omega) (by decide) (by rw [cs1_0]; decide) (by decide) ?_
    refine g_aload_n (pc := 52) (pl := 0) X dX9_may_52 rfl ?_
    refine g_iload_n (pc := 53) (pl := 2) X dX9_may_53 rfl ?_
    refine g_iload_n (pc := 54) (pl := 3) X dX9_may_54 rfl ?_
    have hb2 := hb (by omega)
    refine gVi (pc := 55) (n2 := 0) (k2 := 0) X cs_X9_may_112 (c_X9_maySpan (zl K) D base y kp pd at' od fi la pc f a b hq hI ha hb2) rfl hO (by omega) ⟨hO, hNw⟩ rfl ⟨Nat.le_of_ble_eq_true rfl, Nat.le_of_ble_eq_true rfl⟩ dX9_may_55 (Nat.le_of_ble_eq_true rfl) rfl rfl (fun v55 H1 hp55 hs55 => ?_)
    obtain ⟨rfl, rfl⟩ := hp55
    refine g_iret (pc := 58) X R hH dX9_may_58 ?_
    exact ⟨rfl, if_pos cs1_0⟩
  · skip
    by_cases cs1_1 : s = 109
    · skip
      refine g_lookup (pc := 1) (a := s) (off := 58) X 59 dX9_may_1 (by omega) (by decide) (by rw [cs1_1]; decide) (by decide) ?_
      refine g_aload_n (pc := 59) (pl := 0) X dX9_may_59 rfl ?_
      refine g_iload_n (pc := 60) (pl := 2) X dX9_may_60 rfl ?_
      refine g_iload_n (pc := 61) (pl := 3) X dX9_may_61 rfl ?_
      refine g_iload (pc := 62) (pl := 4) X dX9_may_62 rfl ?_
      have hb2 := hb (by omega)
      have hc2 := hc (by omega)
      refine gVi (pc := 64) (n2 := 0) (k2 := 0) X cs_X9_may_118 (c_X9_mayMove (zl K) D base y kp pd at' od fi la pc f a b c hq hI ha hb2 hc2) rfl hO (by omega) ⟨hO, hNw⟩ rfl ⟨Nat.le_of_ble_eq_true rfl, Nat.le_of_ble_eq_true rfl⟩ dX9_may_64 (Nat.le_of_ble_eq_true rfl) rfl rfl (fun v64 H1 hp64 hs64 => ?_)
      obtain ⟨rfl, rfl⟩ := hp64
      refine g_iret (pc := 67) X R hH dX9_may_67 ?_
      exact ⟨rfl, (if_neg (by omega)).trans (if_pos cs1_1)⟩
    · skip
      by_cases cs1_2 : s = 110
      · skip
        refine g_lookup (pc := 1) (a := s) (off := 67) X 68 dX9_may_1 (by omega) (by decide) (by rw [cs1_2]; decide) (by decide) ?_
        refine g_aload_n (pc := 68) (pl := 0) X dX9_may_68 rfl ?_
        refine g_iload_n (pc := 69) (pl := 2) X dX9_may_69 rfl ?_
        refine g_iload_n (pc := 70) (pl := 3) X dX9_may_70 rfl ?_
        have hb2 := hb (by omega)
        refine gVi (pc := 71) (n2 := 0) (k2 := 0) X cs_X9_may_134 (c_X9_mayNote (zl K) D base y kp pd at' od fi la pc f a b hq hI ha hb2) rfl hO (by omega) ⟨hO, hNw⟩ rfl ⟨Nat.le_of_ble_eq_true rfl, Nat.le_of_ble_eq_true rfl⟩ dX9_may_71 (Nat.le_of_ble_eq_true rfl) rfl rfl (fun v71 H1 hp71 hs71 => ?_)
        obtain ⟨rfl, rfl⟩ := hp71
        refine g_iret (pc := 74) X R hH dX9_may_74 ?_
        exact ⟨rfl, (if_neg (by omega)).trans ((if_neg (by omega)).trans (if_pos cs1_2))⟩
      · skip
        by_cases cs1_3 : s = 114
        · skip
          refine g_lookup (pc := 1) (a := s) (off := 74) X 75 dX9_may_1 (by omega) (by decide) (by rw [cs1_3]; decide) (by decide) ?_
          refine g_aload_n (pc := 75) (pl := 0) X dX9_may_75 rfl ?_
          refine g_iload_n (pc := 76) (pl := 2) X dX9_may_76 rfl ?_
          refine gVi (pc := 77) (n2 := 0) (k2 := 0) X cs_X9_may_143 (c_X9_mayReply (zl K) D base y kp pd at' od fi la pc f a hq hI ha) rfl hO (by omega) ⟨hO, hNw⟩ rfl ⟨Nat.le_of_ble_eq_true rfl, Nat.le_of_ble_eq_true rfl⟩ dX9_may_77 (Nat.le_of_ble_eq_true rfl) rfl rfl (fun v77 H1 hp77 hs77 => ?_)
          obtain ⟨rfl, rfl⟩ := hp77
          refine g_iret (pc := 80) X R hH dX9_may_80 ?_
          exact ⟨rfl, (if_neg (by omega)).trans ((if_neg (by omega)).trans ((if_neg (by omega)).trans (if_pos cs1_3)))⟩
        · skip
          by_cases cs1_4 : s = 120
          · skip
            refine g_lookup (pc := 1) (a := s) (off := 80) X 81 dX9_may_1 (by omega) (by decide) (by rw [cs1_4]; decide) (by decide) ?_
            refine g_aload_n (pc := 81) (pl := 0) X dX9_may_81 rfl ?_
            refine g_iload_n (pc := 82) (pl := 2) X dX9_may_82 rfl ?_
            refine gVi (pc := 83) (n2 := 0) (k2 := 0) X cs_X9_may_140 (c_X9_isNote (zl K) D base y kp pd at' od fi la pc f a hq hI (by omega)) rfl hO (by omega) ⟨hO, hNw⟩ rfl ⟨Nat.le_of_ble_eq_true rfl, Nat.le_of_ble_eq_true rfl⟩ dX9_may_83 (Nat.le_of_ble_eq_true rfl) rfl rfl (fun v83 H1 hp83 hs83 => ?_)
            obtain ⟨rfl, rfl⟩ := hp83
            refine g_if_eq (pc := 86) X 93 dX9_may_86 (by decide) (zbr _) (fun c86 => ?_) (fun c86 => ?_)
            · skip
              replace c86 := zb0 c86
              refine g_iconst (pc := 93) X dX9_may_93 ?_
              refine g_iret (pc := 94) X R hH dX9_may_94 ?_
              exact ⟨rfl, (if_neg (by omega)).trans ((if_neg (by omega)).trans ((if_neg (by omega)).trans ((if_neg (by omega)).trans ((if_pos cs1_4).trans (if_neg c86)))))⟩
            · skip
              replace c86 := zb1 c86
              refine g_iconst (pc := 89) X dX9_may_89 ?_
              refine g_goto (pc := 90) X 94 dX9_may_90 (by decide) ?_
              refine g_iret (pc := 94) X R hH dX9_may_94 ?_
              exact ⟨rfl, (if_neg (by omega)).trans ((if_neg (by omega)).trans ((if_neg (by omega)).trans ((if_neg (by omega)).trans ((if_pos cs1_4).trans (if_pos c86)))))⟩
          · skip
            refine g_lookup (pc := 1) (a := s) (off := 94) X 95 dX9_may_1 (by omega) (by decide) (by simp [Op.lookupswitch.offset, show ¬ ((45 : Int) = s) from fun e => cs1_0 e.symm, show ¬ ((109 : Int) = s) from fun e => cs1_1 e.symm, show ¬ ((110 : Int) = s) from fun e => cs1_2 e.symm, show ¬ ((114 : Int) = s) from fun e => cs1_3 e.symm, show ¬ ((120 : Int) = s) from fun e => cs1_4 e.symm, cs1_0, cs1_1, cs1_2, cs1_3, cs1_4]) (by decide) ?_
            refine g_aload_n (pc := 95) (pl := 0) X dX9_may_95 rfl ?_
            refine g_iload_n (pc := 96) (pl := 2) X dX9_may_96 rfl ?_
            refine gVi (pc := 97) (n2 := 0) (k2 := 0) X cs_X9_may_164 (c_X9_mayReclaim (zl K) D base y kp pd at' od fi la pc f a hq hI ha) rfl hO (by omega) ⟨hO, hNw⟩ rfl ⟨Nat.le_of_ble_eq_true rfl, Nat.le_of_ble_eq_true rfl⟩ dX9_may_97 (Nat.le_of_ble_eq_true rfl) rfl rfl (fun v97 H1 hp97 hs97 => ?_)
            obtain ⟨rfl, rfl⟩ := hp97
            refine g_iret (pc := 100) X R hH dX9_may_100 ?_
            exact ⟨rfl, (if_neg (by omega)).trans ((if_neg (by omega)).trans ((if_neg (by omega)).trans ((if_neg (by omega)).trans ((if_neg (by omega)).trans (rfl)))))⟩

abbrev rm_X9_does : Room := { frames := 5, cells := 0, slots := 0, locals := 118 }
theorem zF_X9_does_26 : zF RX9 wsX9_does 9 8 26 := ⟨RX9, TX9, 17, rfl, by decide +kernel, by decide, by decide +kernel⟩
theorem cs_X9_does_237 : zCV RX9 wsX9_does 237 9 yX9_may wsX9_may cX9_may 5 (some .int) rm_X9_does rm_X9_may 4 := ⟨_, _, gX9_does_X9_may, rfl, ⟨by decide +kernel, by decide +kernel, by decide +kernel⟩, ⟨Nat.le_of_ble_eq_true rfl, Nat.le_of_ble_eq_true rfl⟩, rfl, rfl⟩
theorem cs_X9_does_108 : zCV RX9 wsX9_does 108 9 yX9_goes wsX9_goes cX9_goes 5 none rm_X9_does rm_X9_goes 2 := ⟨_, _, gX9_does_X9_goes, rfl, ⟨by decide +kernel, by decide +kernel, by decide +kernel⟩, ⟨Nat.le_of_ble_eq_true rfl, Nat.le_of_ble_eq_true rfl⟩, rfl, rfl⟩
theorem cs_X9_does_122 : zCV RX9 wsX9_does 122 9 yX9_moves wsX9_moves cX9_moves 6 none rm_X9_does rm_X9_moves 3 := ⟨_, _, gX9_does_X9_moves, rfl, ⟨by decide +kernel, by decide +kernel, by decide +kernel⟩, ⟨Nat.le_of_ble_eq_true rfl, Nat.le_of_ble_eq_true rfl⟩, rfl, rfl⟩
theorem cs_X9_does_137 : zCV RX9 wsX9_does 137 9 yX9_notes wsX9_notes cX9_notes 6 (some .int) rm_X9_does rm_X9_notes 2 := ⟨_, _, gX9_does_X9_notes, rfl, ⟨by decide +kernel, by decide +kernel, by decide +kernel⟩, ⟨Nat.le_of_ble_eq_true rfl, Nat.le_of_ble_eq_true rfl⟩, rfl, rfl⟩
theorem cs_X9_does_146 : zCV RX9 wsX9_does 146 9 yX9_replies wsX9_replies cX9_replies 3 (some .int) rm_X9_does rm_X9_replies 1 := ⟨_, _, gX9_does_X9_replies, rfl, ⟨by decide +kernel, by decide +kernel, by decide +kernel⟩, ⟨Nat.le_of_ble_eq_true rfl, Nat.le_of_ble_eq_true rfl⟩, rfl, rfl⟩
theorem cs_X9_does_152 : zCV RX9 wsX9_does 152 9 yX9_drops wsX9_drops cX9_drops 4 (some .int) rm_X9_does rm_X9_drops 1 := ⟨_, _, gX9_does_X9_drops, rfl, ⟨by decide +kernel, by decide +kernel, by decide +kernel⟩, ⟨Nat.le_of_ble_eq_true rfl, Nat.le_of_ble_eq_true rfl⟩, rfl, rfl⟩
theorem cs_X9_does_167 : zCV RX9 wsX9_does 167 9 yX9_reclaims wsX9_reclaims cX9_reclaims 3 (some .int) rm_X9_does rm_X9_reclaims 1 := ⟨_, _, gX9_does_X9_reclaims, rfl, ⟨by decide +kernel, by decide +kernel, by decide +kernel⟩, ⟨Nat.le_of_ble_eq_true rfl, Nat.le_of_ble_eq_true rfl⟩, rfl, rfl⟩
theorem cs_X9_does_234 : zCV RX9 wsX9_does 234 9 yX9_writes wsX9_writes cX9_writes 6 (some .boolean) rm_X9_does rm_X9_writes 3 := ⟨_, _, gX9_does_X9_writes, rfl, ⟨by decide +kernel, by decide +kernel, by decide +kernel⟩, ⟨Nat.le_of_ble_eq_true rfl, Nat.le_of_ble_eq_true rfl⟩, rfl, rfl⟩
set_option maxRecDepth 100000 in
set_option maxHeartbeats 4000000 in
theorem c_X9_does (l : Launch) (D : zD) (base : Nat) (y : Nat) (kp pd at' od fi la pc : Int) (f : Int → Int) (P W T : Int → Int) (n9 p : Int) (k : Nat) (hq : base ≤ y) (hI : PInv f) (hn9 : 0 ≤ n9 ∧ n9 ≤ 80) (hPr : ∀ i : Int, 0 ≤ i → i < n9 → 33 ≤ P i ∧ P i ≤ 126) (hk : k < 28) (hok : ordOk n9 P p) (hoe : ordE n9 P p ≤ n9) (hp0 : 0 ≤ p) (hA : OrdA n9 P p (k : Int) W) : Ct l yX9_does wsX9_does rm_X9_does D base [.ref y, .int (J (k : Int))] (fun H => MoO D y kp pd at' od fi la pc H ∧ NwAt D y f H ∧ Ia D (y + 5) 80 P H ∧ Ia D (y + 6) 112 W H ∧ Ia D (y + 10) 120 T H) (PI (fun H v H1 => ((0 ≤ (obP n9 P p f).1 ∧ 1 = v) ∨ ((obP n9 P p f).1 < 0 ∧ 0 = v)) ∧ (∃ f2 : Int → Int, MEq (obP n9 P p f).2 f2 ∧ NwAt D y f2 H1) ∧ MoO D y kp pd at' od fi la pc H1 ∧ Ia D (y + 5) 80 P H1 ∧ Ia D (y + 6) 112 W H1 ∧ (∃ T2 : Int → Int, Ia D (y + 10) 120 T2 H1) ∧ Fr (Un (y + 1) (y + 2) (y + 10) (y + 11)) 0 H H1)) := by
  refine Ct.of (own := RX9) (cc := cX9_does) (maxL := 6) (by decide +kernel) rfl (Nat.le_of_ble_eq_true rfl) rfl ?_
  intro K H X R hH hnm hP
  show G K 0 0 H 0 [(0, .ref y), (1, .int (J (k : Int)))] []
  obtain ⟨hO, hNw, hPd, hOr, hTk⟩ := hP
  have hnum := hI.nums
  obtain ⟨hu1, hu2, hu3, hu4⟩ := ord_num hok
  have hkc := oK_cases hok
  obtain ⟨kd, hkd⟩ : ∃ z, itm n9 P p = z := ⟨_, rfl⟩
  have eK := obP_eq (f := f) hkd
  rw [hkd] at hu2 hu3 hu4 hkc
  obtain ⟨a9, ha9⟩ : ∃ z, oA n9 P p = z := ⟨_, rfl⟩
  rw [ha9] at eK hu1
  obtain ⟨b9, hb9⟩ : ∃ z, W (4 * (k : Int) + 2) = z := ⟨_, rfl⟩
  obtain ⟨c9, hc9⟩ : ∃ z, W (4 * (k : Int) + 3) = z := ⟨_, rfl⟩
  have w0 : W (4 * (k : Int)) = kd := hA.1.trans hkd
  have w1 : W (4 * (k : Int) + 1) = a9 := hA.2.1.trans ha9
  have hrb : kd = 45 ∨ kd = 109 ∨ kd = 110 → b9 = oB n9 P p := fun z => hb9.symm.trans (hA.2.2.1 (by omega))
  have hrc : kd = 109 → c9 = oC n9 P p := fun z => hc9.symm.trans (hA.2.2.2.1 (by omega))
  have hr43 : kd = 43 → b9 = oe1 n9 P p + 1 ∧ c9 = ordE n9 P p - (oe1 n9 P p + 1) := fun z => ⟨hb9.symm.trans (hA.2.2.2.2 (by omega)).1, hc9.symm.trans (hA.2.2.2.2 (by omega)).2⟩
  have hgb : kd = 45 ∨ kd = 109 ∨ kd = 110 → rg b9 := fun z => by rw [hrb z]; have := hu2 (by omega); omega
  have hgc : kd = 109 → rg c9 := fun z => by rw [hrc z]; have := hu3 z; omega
  have hkr : 43 ≤ kd ∧ kd ≤ 120 := by omega
  have hea : ordE n9 P p ≤ n9 := hoe
  have hKD : (kd = 43 → 0 ≤ oe1 n9 P p + 1 ∧ oe1 n9 P p + 1 ≤ ordE n9 P p) := fun z => by have := hu4 z; omega
  clear hu2 hu3 hu4
  refine g_aload_n (pc := 0) (pl := 0) X dX9_does_0 rfl ?_
  refine g_getf (pc := 1) X zF_X9_does_26 hO rfl dX9_does_1 ?_
  refine g_iconst (pc := 4) X dX9_does_4 ?_
  refine g_iload_n (pc := 5) (pl := 1) X dX9_does_5 rfl ?_
  refine g_imul (pc := 6) X dX9_does_6 ?_
  refine g_iaload (pc := 7) X hOr (by omega) (by omega) (by omega) dX9_does_7 ?_
  rw [show W (4 * (k : Int)) = kd from w0]
  refine g_istore_n (pc := 8) (lv' := [(2, _), (0, _), (1, _)]) X dX9_does_8 (by decide) rfl ?_
  refine g_aload_n (pc := 9) (pl := 1) X dX9_does_9 rfl ?_
  refine g_getf (pc := 10) X zF_X9_does_26 hO rfl dX9_does_10 ?_
  refine g_iconst (pc := 13) X dX9_does_13 ?_
  refine g_iload_n (pc := 14) (pl := 2) X dX9_does_14 rfl ?_
  refine g_imul (pc := 15) X dX9_does_15 ?_
  refine g_iconst (pc := 16) X dX9_does_16 ?_
  refine g_iadd (pc := 17) X dX9_does_17 ?_
  refine g_iaload (pc := 18) X hOr (by omega) (by omega) (by omega) dX9_does_18 ?_
  rw [show W ((4 * (k : Int)) + 1) = a9 from w1]
  refine g_istore_n (pc := 19) (lv' := [(3, _), (2, _), (0, _), (1, _)]) X dX9_does_19 (by decide) rfl ?_
  refine g_aload_n (pc := 20) (pl := 2) X dX9_does_20 rfl ?_
  refine g_getf (pc := 21) X zF_X9_does_26 hO rfl dX9_does_21 ?_
  refine g_iconst (pc := 24) X dX9_does_24 ?_
  refine g_iload_n (pc := 25) (pl := 3) X dX9_does_25 rfl ?_
  refine g_imul (pc := 26) X dX9_does_26 ?_
  refine g_iconst (pc := 27) X dX9_does_27 ?_
  refine g_iadd (pc := 28) X dX9_does_28 ?_
  refine g_iaload (pc := 29) X hOr (by omega) (by omega) (by omega) dX9_does_29 ?_
  rw [show W ((4 * (k : Int)) + 2) = b9 from hb9]
  refine g_istore (pc := 30) (lv' := [(4, _), (3, _), (2, _), (0, _), (1, _)]) X dX9_does_30 (by decide) rfl ?_
  refine g_aload_n (pc := 32) (pl := 3) X dX9_does_32 rfl ?_
  refine g_getf (pc := 33) X zF_X9_does_26 hO rfl dX9_does_33 ?_
  refine g_iconst (pc := 36) X dX9_does_36 ?_
  refine g_iload_n (pc := 37) (pl := 4) X dX9_does_37 rfl ?_
  refine g_imul (pc := 38) X dX9_does_38 ?_
  refine g_iconst (pc := 39) X dX9_does_39 ?_
  refine g_iadd (pc := 40) X dX9_does_40 ?_
  refine g_iaload (pc := 41) X hOr (by omega) (by omega) (by omega) dX9_does_41 ?_
  rw [show W ((4 * (k : Int)) + 3) = c9 from hc9]
  refine g_istore (pc := 42) (lv' := [(5, _), (4, _), (3, _), (2, _), (0, _), (1, _)]) X dX9_does_42 (by decide) rfl ?_
  refine g_iload_n (pc := 44) (pl := 3) X dX9_does_44 rfl ?_
  refine g_bipush (pc := 45) X dX9_does_45 (by decide +kernel) ?_
  refine g_icmp_ne (pc := 47) X 60 dX9_does_47 (by decide) (by omega) (by omega) (fun c47 => ?_) (fun c47 => ?_)
  · skip
    refine g_aload_n (pc := 60) (pl := 4) X dX9_does_60 rfl ?_
    refine g_iload_n (pc := 61) (pl := 3) X dX9_does_61 rfl ?_
    refine g_iload_n (pc := 62) (pl := 2) X dX9_does_62 rfl ?_
    refine g_iload (pc := 63) (pl := 1) X dX9_does_63 rfl ?_
    refine g_iload (pc := 65) (pl := 0) X dX9_does_65 rfl ?_
    clear  hr43  hKD
    refine gVi (pc := 67) (n2 := 0) (k2 := 0) X cs_X9_does_237 (c_X9_may (zl K) D base y kp pd at' od fi la pc f kd a9 b9 c9 hq hI (by omega) (by omega) hgb hgc) rfl hO (by omega) ⟨hO, hNw⟩ rfl ⟨Nat.le_of_ble_eq_true rfl, Nat.le_of_ble_eq_true rfl⟩ dX9_does_67 (Nat.le_of_ble_eq_true rfl) rfl rfl (fun v67 H1 hp67 hs67 => ?_)
    obtain ⟨rfl, rfl⟩ := hp67
    clear hgb hgc
    have hpe := perr_bd f a9 b9
    have hme : -2 ≤ mverr f a9 b9 c9 ∧ mverr f a9 b9 c9 ≤ 0 := by unfold mverr; (repeat' split) <;> omega
    have hmr : -5 ≤ mrR f a9 ∧ mrR f a9 ≤ 0 := by unfold mrR; (repeat' split) <;> omega
    have hmyb : -5 ≤ myR f kd a9 b9 c9 ∧ myR f kd a9 b9 c9 ≤ 0 := by unfold myR; (repeat' split) <;> omega
    have hmy : ¬ myR f kd a9 b9 c9 = 0 → (obP n9 P p f).1 < 0 ∧ (obP n9 P p f).2 = f := by
      intro hz
      rcases (show kd = 45 ∨ kd = 109 ∨ kd = 110 ∨ kd = 114 ∨ kd = 120 ∨ kd = 99 by omega) with z | z | z | z | z | z
      · have em : myR f kd a9 b9 c9 = perr f a9 b9 := if_pos (by omega)
        have eo : (obP n9 P p f) = (erR f a9 (oB n9 P p), erG f a9 (oB n9 P p)) := eK.trans ((if_neg (by omega)).trans (if_pos (by omega)))
        rw [← hrb (by omega)] at eo
        rw [eo]
        exact ⟨by show erR f a9 b9 < 0; rw [show erR f a9 b9 = perr f a9 b9 from if_pos (by omega)]; omega, if_pos (by omega)⟩
      · have em : myR f kd a9 b9 c9 = mverr f a9 b9 c9 := (if_neg (by omega)).trans (if_pos (by omega))
        have eo : (obP n9 P p f) = (mvR f a9 (oB n9 P p) (oC n9 P p), mvS f a9 (oB n9 P p) (oC n9 P p)) := eK.trans ((if_neg (by omega)).trans ((if_neg (by omega)).trans ((if_neg (by omega)).trans (if_pos (by omega)))))
        rw [← hrb (by omega), ← hrc z] at eo
        rw [eo]
        exact ⟨by show mvR f a9 b9 c9 < 0; rw [show mvR f a9 b9 c9 = mverr f a9 b9 c9 from if_pos (by omega)]; omega, if_pos (by omega)⟩
      · have em : myR f kd a9 b9 c9 = (if perr f a9 b9 < 0 then perr f a9 b9 else if 16 ≤ f 1 then -4 else 0) := (if_neg (by omega)).trans ((if_neg (by omega)).trans (if_pos (by omega)))
        have eo : (obP n9 P p f) = (ntR f a9 (oB n9 P p), ntG f a9 (oB n9 P p)) := eK.trans ((if_neg (by omega)).trans ((if_neg (by omega)).trans ((if_neg (by omega)).trans ((if_neg (by omega)).trans (if_pos (by omega))))))
        rw [← hrb (by omega)] at eo
        rw [eo]
        have hm := ntR_may (f := f) (a := a9) (b := b9) em.symm
        exact ⟨by show ntR f a9 b9 < 0; omega, if_pos (by omega)⟩
      · have em : myR f kd a9 b9 c9 = (if ¬ isN f a9 then -1 else if 16 ≤ f 1 then -4 else 0) := (if_neg (by omega)).trans ((if_neg (by omega)).trans ((if_neg (by omega)).trans (if_pos (by omega))))
        have eo : (obP n9 P p f) = (rpR f a9, rpG f a9) := eK.trans ((if_neg (by omega)).trans ((if_neg (by omega)).trans ((if_neg (by omega)).trans ((if_neg (by omega)).trans ((if_neg (by omega)).trans (if_pos (by omega)))))))
        rw [eo]
        have hm := rpR_may (f := f) (n := a9) em.symm
        exact ⟨by show rpR f a9 < 0; omega, if_pos (by omega)⟩
      · have em : myR f kd a9 b9 c9 = (if isN f a9 then 0 else -1) := (if_neg (by omega)).trans ((if_neg (by omega)).trans ((if_neg (by omega)).trans ((if_neg (by omega)).trans (if_pos (by omega)))))
        have eo : (obP n9 P p f) = (dpR f a9, dpG f a9) := eK.trans ((if_neg (by omega)).trans ((if_neg (by omega)).trans ((if_neg (by omega)).trans ((if_neg (by omega)).trans ((if_neg (by omega)).trans ((if_neg (by omega)).trans (if_pos (by omega))))))))
        rw [eo]
        have hn : ¬ isN f a9 := fun y => hz (em.trans (if_pos y))
        exact ⟨by show dpR f a9 < 0; rw [show dpR f a9 = -1 from if_pos hn]; omega, if_pos hn⟩
      · have em : myR f kd a9 b9 c9 = mrR f a9 := (if_neg (by omega)).trans ((if_neg (by omega)).trans ((if_neg (by omega)).trans ((if_neg (by omega)).trans ((if_neg (by omega)).trans (rfl)))))
        have eo : (obP n9 P p f) = (rcR f a9, rcG f a9) := eK.trans ((if_neg (by omega)).trans ((if_neg (by omega)).trans (if_pos (by omega))))
        rw [eo]
        have hm := mrR_may hI (n := a9)
        have hm2 : mrR f a9 < 0 ∧ rcR f a9 = mrR f a9 := by rcases hm with w | w; exact absurd (em.trans w.1) hz; exact w
        exact ⟨by show rcR f a9 < 0; omega, if_pos (by omega)⟩
    refine g_if_eq (pc := 70) X 75 dX9_does_70 (by decide) (by omega) (fun c70 => ?_) (fun c70 => ?_)
    · skip
      have hz0 : myR f kd a9 b9 c9 = 0 := c70
      clear hmy
      refine g_iload_n (pc := 75) (pl := 3) X dX9_does_75 rfl ?_
      by_cases cs76_0 : kd = 45
      · skip
        refine g_lookup (pc := 76) (a := kd) (off := 52) X 128 dX9_does_76 (by omega) (by decide) (by rw [cs76_0]; decide) (by decide) ?_
        refine g_aload_n (pc := 128) (pl := 4) X dX9_does_128 rfl ?_
        refine g_iload_n (pc := 129) (pl := 2) X dX9_does_129 rfl ?_
        refine g_iload (pc := 130) (pl := 1) X dX9_does_130 rfl ?_
        have em : myR f kd a9 b9 c9 = perr f a9 b9 := if_pos (by omega)
        have hab := perr_ok (g := f) (a := a9) (b := b9) (by omega)
        have hbb := hrb (by omega)
        clear hrb hrc
        refine gVv (pc := 132) (n2 := 0) (k2 := 0) X cs_X9_does_108 (c_X9_goes (zl K) D base y kp pd at' od fi la pc f a9 b9 hq (by omega)) rfl hO (by omega) ⟨hO, hNw⟩ rfl ⟨Nat.le_of_ble_eq_true rfl, Nat.le_of_ble_eq_true rfl⟩ dX9_does_132 (Nat.le_of_ble_eq_true rfl) rfl rfl (fun H1 hp132 hs132 => ?_)
        obtain ⟨hO2, hNw2, hfg⟩ := hp132
        have hPd2 := hPd.fr hfg (by omega)
        have hOr2 := hOr.fr hfg (by omega)
        have hTk2 : ∃ T2 : Int → Int, Ia D (y + 10) 120 T2 H1 := ⟨_, hTk.fr hfg (by omega)⟩
        have hFu : Fr (Un (y + 1) (y + 2) (y + 10) (y + 11)) 0 H H1 := hfg.un (by omega)
        have eo : (obP n9 P p f) = (erR f a9 (oB n9 P p), erG f a9 (oB n9 P p)) := eK.trans ((if_neg (by omega)).trans (if_pos (by omega)))
        have hR : 0 ≤ (obP n9 P p f).1 := by rw [eo]; show 0 ≤ erR f a9 (oB n9 P p); rw [← hbb, show erR f a9 b9 = popc (ors f a9 b9) from if_neg (by omega)]; exact (popc_rg _).1
        have hG : MEq (obP n9 P p f).2 (glX f a9 (b9 - a9 + 1) (f 0 - (b9 - a9 + 1))) := by rw [eo]; show MEq (erG f a9 (oB n9 P p)) _; rw [← hbb, show erG f a9 b9 = dlG f a9 b9 from if_neg (by omega)]; exact glX_eq (by omega)
        refine g_goto (pc := 135) X 185 dX9_does_135 (by decide) ?_
        refine g_iconst (pc := 185) X dX9_does_185 ?_
        refine g_zret (pc := 186) X R hH (by first | exact Or.inl rfl | exact Or.inr rfl | omega) dX9_does_186 ?_
        exact ⟨Or.inl ⟨hR, rfl⟩, ⟨_, hG, hNw2⟩, hO2, hPd2, hOr2, hTk2, hFu⟩
      · skip
        by_cases cs76_1 : kd = 109
        · skip
          refine g_lookup (pc := 76) (a := kd) (off := 62) X 138 dX9_does_76 (by omega) (by decide) (by rw [cs76_1]; decide) (by decide) ?_
          refine g_aload_n (pc := 138) (pl := 4) X dX9_does_138 rfl ?_
          refine g_iload_n (pc := 139) (pl := 2) X dX9_does_139 rfl ?_
          refine g_iload (pc := 140) (pl := 1) X dX9_does_140 rfl ?_
          refine g_iload (pc := 142) (pl := 0) X dX9_does_142 rfl ?_
          have em : myR f kd a9 b9 c9 = mverr f a9 b9 c9 := (if_neg (by omega)).trans (if_pos (by omega))
          have hme0 : mverr f a9 b9 c9 = 0 := by omega
          have hpz : ¬ perr f a9 b9 < 0 := by have z := hme0; unfold mverr at z; split at z; (omega); (assumption)
          have hab := perr_ok hpz
          have hpl : 0 ≤ c9 ∧ c9 ≤ f 0 - (b9 - a9 + 1) := by have z := hme0; unfold mverr at z; rw [if_neg hpz] at z; split at z <;> omega
          have hbb := hrb (by omega)
          have hcc := hrc (by omega)
          clear hrb hrc
          refine gVv (pc := 144) (n2 := 0) (k2 := 0) X cs_X9_does_122 (c_X9_moves (zl K) D base y kp pd at' od fi la pc f T a9 b9 c9 hq (by omega) hpl) rfl hO (by omega) ⟨hO, hNw, hTk⟩ rfl ⟨Nat.le_of_ble_eq_true rfl, Nat.le_of_ble_eq_true rfl⟩ dX9_does_144 (Nat.le_of_ble_eq_true rfl) rfl rfl (fun H1 hp144 hs144 => ?_)
          obtain ⟨hO2, ⟨F, hMF, hNw2⟩, hTk2, hFu⟩ := hp144
          have hPd2 : Ia D (y + 5) 80 P H1 := by obtain ⟨Hm, q1, q2⟩ := hFu.part; exact (hPd.fr q1 (by omega)).fr q2 (by omega)
          have hOr2 : Ia D (y + 6) 112 W H1 := by obtain ⟨Hm, q1, q2⟩ := hFu.part; exact (hOr.fr q1 (by omega)).fr q2 (by omega)
          have eo : (obP n9 P p f) = (mvR f a9 (oB n9 P p) (oC n9 P p), mvS f a9 (oB n9 P p) (oC n9 P p)) := eK.trans ((if_neg (by omega)).trans ((if_neg (by omega)).trans ((if_neg (by omega)).trans (if_pos (by omega)))))
          have hR : 0 ≤ (obP n9 P p f).1 := by rw [eo]; show 0 ≤ mvR f a9 (oB n9 P p) (oC n9 P p); rw [← hbb, ← hcc, show mvR f a9 b9 c9 = ptd (mvG f a9 b9 c9) from if_neg (by omega)]; exact (cnt_bd _ _).1
          have hG : MEq (obP n9 P p f).2 F := by rw [eo]; show MEq (mvS f a9 (oB n9 P p) (oC n9 P p)) _; rw [← hbb, ← hcc, show mvS f a9 b9 c9 = mvG f a9 b9 c9 from if_neg (by omega)]; exact hMF
          refine g_goto (pc := 147) X 185 dX9_does_147 (by decide) ?_
          refine g_iconst (pc := 185) X dX9_does_185 ?_
          refine g_zret (pc := 186) X R hH (by first | exact Or.inl rfl | exact Or.inr rfl | omega) dX9_does_186 ?_
          exact ⟨Or.inl ⟨hR, rfl⟩, ⟨_, hG, hNw2⟩, hO2, hPd2, hOr2, hTk2, hFu⟩
        · skip
          by_cases cs76_2 : kd = 110
          · skip
            refine g_lookup (pc := 76) (a := kd) (off := 74) X 150 dX9_does_76 (by omega) (by decide) (by rw [cs76_2]; decide) (by decide) ?_
            refine g_aload_n (pc := 150) (pl := 4) X dX9_does_150 rfl ?_
            refine g_iload_n (pc := 151) (pl := 2) X dX9_does_151 rfl ?_
            refine g_iload (pc := 152) (pl := 1) X dX9_does_152 rfl ?_
            have em : myR f kd a9 b9 c9 = (if perr f a9 b9 < 0 then perr f a9 b9 else if 16 ≤ f 1 then -4 else 0) := (if_neg (by omega)).trans ((if_neg (by omega)).trans (if_pos (by omega)))
            have hm := ntR_may (f := f) (a := a9) (b := b9) em.symm
            have hbb := hrb (by omega)
            clear hrb hrc
            refine gVi (pc := 154) (n2 := 0) (k2 := 0) X cs_X9_does_137 (c_X9_notes (zl K) D base y kp pd at' od fi la pc f a9 b9 hq hI (by omega) (by omega)) rfl hO (by omega) ⟨hO, hNw⟩ rfl ⟨Nat.le_of_ble_eq_true rfl, Nat.le_of_ble_eq_true rfl⟩ dX9_does_154 (Nat.le_of_ble_eq_true rfl) rfl rfl (fun v154 H1 hp154 hs154 => ?_)
            obtain ⟨hv, hO2, hNw2, hfg⟩ := hp154
            subst hv
            have hPd2 := hPd.fr hfg (by omega)
            have hOr2 := hOr.fr hfg (by omega)
            have hTk2 : ∃ T2 : Int → Int, Ia D (y + 10) 120 T2 H1 := ⟨_, hTk.fr hfg (by omega)⟩
            have hFu : Fr (Un (y + 1) (y + 2) (y + 10) (y + 11)) 0 H H1 := hfg.un (by omega)
            have eo : (obP n9 P p f) = (ntR f a9 (oB n9 P p), ntG f a9 (oB n9 P p)) := eK.trans ((if_neg (by omega)).trans ((if_neg (by omega)).trans ((if_neg (by omega)).trans ((if_neg (by omega)).trans (if_pos (by omega))))))
            have hR : 0 ≤ (obP n9 P p f).1 := by rw [eo]; show 0 ≤ ntR f a9 (oB n9 P p); rw [← hbb]; omega
            have hG : MEq (obP n9 P p f).2 (ntX f a9 b9) := by rw [eo]; show MEq (ntG f a9 (oB n9 P p)) _; rw [← hbb, show ntG f a9 b9 = anG (up f 1 (f 1 + 1)) (f 1) a9 b9 from if_neg (by omega)]; exact ntX_eq hI (by omega) (by omega)
            refine g_pop (pc := 157) X dX9_does_157 rfl ?_
            refine g_goto (pc := 158) X 185 dX9_does_158 (by decide) ?_
            refine g_iconst (pc := 185) X dX9_does_185 ?_
            refine g_zret (pc := 186) X R hH (by first | exact Or.inl rfl | exact Or.inr rfl | omega) dX9_does_186 ?_
            exact ⟨Or.inl ⟨hR, rfl⟩, ⟨_, hG, hNw2⟩, hO2, hPd2, hOr2, hTk2, hFu⟩
          · skip
            by_cases cs76_3 : kd = 114
            · skip
              refine g_lookup (pc := 76) (a := kd) (off := 85) X 161 dX9_does_76 (by omega) (by decide) (by rw [cs76_3]; decide) (by decide) ?_
              refine g_aload_n (pc := 161) (pl := 4) X dX9_does_161 rfl ?_
              refine g_iload_n (pc := 162) (pl := 2) X dX9_does_162 rfl ?_
              have em : myR f kd a9 b9 c9 = (if ¬ isN f a9 then -1 else if 16 ≤ f 1 then -4 else 0) := (if_neg (by omega)).trans ((if_neg (by omega)).trans ((if_neg (by omega)).trans (if_pos (by omega))))
              have hm := rpR_may (f := f) (n := a9) em.symm
              clear hrb hrc
              refine gVi (pc := 163) (n2 := 0) (k2 := 0) X cs_X9_does_146 (c_X9_replies (zl K) D base y kp pd at' od fi la pc f a9 hq (by omega)) rfl hO (by omega) ⟨hO, hNw⟩ rfl ⟨Nat.le_of_ble_eq_true rfl, Nat.le_of_ble_eq_true rfl⟩ dX9_does_163 (Nat.le_of_ble_eq_true rfl) rfl rfl (fun v163 H1 hp163 hs163 => ?_)
              obtain ⟨hv, hO2, hNw2, hfg⟩ := hp163
              subst hv
              have hPd2 := hPd.fr hfg (by omega)
              have hOr2 := hOr.fr hfg (by omega)
              have hTk2 : ∃ T2 : Int → Int, Ia D (y + 10) 120 T2 H1 := ⟨_, hTk.fr hfg (by omega)⟩
              have hFu : Fr (Un (y + 1) (y + 2) (y + 10) (y + 11)) 0 H H1 := hfg.un (by omega)
              have eo : (obP n9 P p f) = (rpR f a9, rpG f a9) := eK.trans ((if_neg (by omega)).trans ((if_neg (by omega)).trans ((if_neg (by omega)).trans ((if_neg (by omega)).trans ((if_neg (by omega)).trans (if_pos (by omega)))))))
              have hR : 0 ≤ (obP n9 P p f).1 := by rw [eo]; show 0 ≤ rpR f a9; omega
              have hG : MEq (obP n9 P p f).2 (up (up (up f (126 + 80 * f 1) 0) (125 + 80 * f 1) a9) 1 (f 1 + 1)) := by rw [eo]; show MEq (rpG f a9) _; rw [show rpG f a9 = _ from if_neg (by omega)]; exact MEq.refl _
              refine g_pop (pc := 166) X dX9_does_166 rfl ?_
              refine g_goto (pc := 167) X 185 dX9_does_167 (by decide) ?_
              refine g_iconst (pc := 185) X dX9_does_185 ?_
              refine g_zret (pc := 186) X R hH (by first | exact Or.inl rfl | exact Or.inr rfl | omega) dX9_does_186 ?_
              exact ⟨Or.inl ⟨hR, rfl⟩, ⟨_, hG, hNw2⟩, hO2, hPd2, hOr2, hTk2, hFu⟩
            · skip
              by_cases cs76_4 : kd = 120
              · skip
                refine g_lookup (pc := 76) (a := kd) (off := 94) X 170 dX9_does_76 (by omega) (by decide) (by rw [cs76_4]; decide) (by decide) ?_
                refine g_aload_n (pc := 170) (pl := 4) X dX9_does_170 rfl ?_
                refine g_iload_n (pc := 171) (pl := 2) X dX9_does_171 rfl ?_
                have em : myR f kd a9 b9 c9 = (if isN f a9 then 0 else -1) := (if_neg (by omega)).trans ((if_neg (by omega)).trans ((if_neg (by omega)).trans ((if_neg (by omega)).trans (if_pos (by omega)))))
                have hin : isN f a9 := Decidable.byContradiction (fun z => by rw [if_neg z] at em; omega)
                clear hrb hrc
                refine gVi (pc := 172) (n2 := 0) (k2 := 0) X cs_X9_does_152 (c_X9_drops (zl K) D base y kp pd at' od fi la pc f a9 hq hI hin) rfl hO (by omega) ⟨hO, hNw⟩ rfl ⟨Nat.le_of_ble_eq_true rfl, Nat.le_of_ble_eq_true rfl⟩ dX9_does_172 (Nat.le_of_ble_eq_true rfl) rfl rfl (fun v172 H1 hp172 hs172 => ?_)
                obtain ⟨hv, ⟨f2, hm2, hNw2⟩, hO2, hfg⟩ := hp172
                subst hv
                have hPd2 := hPd.fr hfg (by omega)
                have hOr2 := hOr.fr hfg (by omega)
                have hTk2 : ∃ T2 : Int → Int, Ia D (y + 10) 120 T2 H1 := ⟨_, hTk.fr hfg (by omega)⟩
                have hFu : Fr (Un (y + 1) (y + 2) (y + 10) (y + 11)) 0 H H1 := hfg.un (by omega)
                have eo : (obP n9 P p f) = (dpR f a9, dpG f a9) := eK.trans ((if_neg (by omega)).trans ((if_neg (by omega)).trans ((if_neg (by omega)).trans ((if_neg (by omega)).trans ((if_neg (by omega)).trans ((if_neg (by omega)).trans (if_pos (by omega))))))))
                have hR : 0 ≤ (obP n9 P p f).1 := by rw [eo]; show 0 ≤ dpR f a9; rw [show dpR f a9 = popc (famS f a9) from if_neg (fun z => z hin)]; exact (popc_rg _).1
                have hG : MEq (obP n9 P p f).2 f2 := by rw [eo]; show MEq (dpG f a9) _; rw [show dpG f a9 = _ from if_neg (fun z => z hin)]; exact hm2
                refine g_pop (pc := 175) X dX9_does_175 rfl ?_
                refine g_goto (pc := 176) X 185 dX9_does_176 (by decide) ?_
                refine g_iconst (pc := 185) X dX9_does_185 ?_
                refine g_zret (pc := 186) X R hH (by first | exact Or.inl rfl | exact Or.inr rfl | omega) dX9_does_186 ?_
                exact ⟨Or.inl ⟨hR, rfl⟩, ⟨_, hG, hNw2⟩, hO2, hPd2, hOr2, hTk2, hFu⟩
              · skip
                refine g_lookup (pc := 76) (a := kd) (off := 103) X 179 dX9_does_76 (by omega) (by decide) (by simp [Op.lookupswitch.offset, show ¬ ((45 : Int) = kd) from fun e => cs76_0 e.symm, show ¬ ((109 : Int) = kd) from fun e => cs76_1 e.symm, show ¬ ((110 : Int) = kd) from fun e => cs76_2 e.symm, show ¬ ((114 : Int) = kd) from fun e => cs76_3 e.symm, show ¬ ((120 : Int) = kd) from fun e => cs76_4 e.symm, cs76_0, cs76_1, cs76_2, cs76_3, cs76_4]) (by decide) ?_
                refine g_aload_n (pc := 179) (pl := 4) X dX9_does_179 rfl ?_
                refine g_iload_n (pc := 180) (pl := 2) X dX9_does_180 rfl ?_
                have em : myR f kd a9 b9 c9 = mrR f a9 := (if_neg (by omega)).trans ((if_neg (by omega)).trans ((if_neg (by omega)).trans ((if_neg (by omega)).trans ((if_neg (by omega)).trans (rfl)))))
                obtain ⟨-, g1, g2, g3, g4, g5, g6, g7⟩ | ⟨g1, -⟩ := mrR_may hI (n := a9)
                rotate_left
                exact absurd g1 (by omega)
                clear hrb hrc
                refine gVi (pc := 181) (n2 := 0) (k2 := 0) X cs_X9_does_167 (c_X9_reclaims (zl K) D base y kp pd at' od fi la pc f a9 hq hI g1 g2 g4 g5 g6) rfl hO (by omega) ⟨hO, hNw⟩ rfl ⟨Nat.le_of_ble_eq_true rfl, Nat.le_of_ble_eq_true rfl⟩ dX9_does_181 (Nat.le_of_ble_eq_true rfl) rfl rfl (fun v181 H1 hp181 hs181 => ?_)
                obtain ⟨hv, hO2, hNw2, hfg⟩ := hp181
                subst hv
                have hPd2 := hPd.fr hfg (by omega)
                have hOr2 := hOr.fr hfg (by omega)
                have hTk2 : ∃ T2 : Int → Int, Ia D (y + 10) 120 T2 H1 := ⟨_, hTk.fr hfg (by omega)⟩
                have hFu : Fr (Un (y + 1) (y + 2) (y + 10) (y + 11)) 0 H H1 := hfg.un (by omega)
                have eo : (obP n9 P p f) = (rcR f a9, rcG f a9) := eK.trans ((if_neg (by omega)).trans ((if_neg (by omega)).trans (if_pos (by omega))))
                have hR : 0 ≤ (obP n9 P p f).1 := by rw [eo]; show 0 ≤ rcR f a9; omega
                have hG : MEq (obP n9 P p f).2 (tkX f a9 (bstN f a9).1 ((bstN f a9).1 + f (126 + 80 * a9) - 1)) := by rw [eo]; show MEq (rcG f a9) _; rw [show rcG f a9 = _ from if_neg (by omega)]; exact rc_eq hI g1 g2 g6 g5
                refine g_pop (pc := 184) X dX9_does_184 rfl ?_
                refine g_iconst (pc := 185) X dX9_does_185 ?_
                refine g_zret (pc := 186) X R hH (by first | exact Or.inl rfl | exact Or.inr rfl | omega) dX9_does_186 ?_
                exact ⟨Or.inl ⟨hR, rfl⟩, ⟨_, hG, hNw2⟩, hO2, hPd2, hOr2, hTk2, hFu⟩
    · skip
      refine g_iconst (pc := 73) X dX9_does_73 ?_
      refine g_zret (pc := 74) X R hH (by first | exact Or.inl rfl | exact Or.inr rfl | omega) dX9_does_74 ?_
      have hz := hmy c70
      exact ⟨Or.inr ⟨hz.1, rfl⟩, ⟨f, by rw [hz.2]; exact MEq.refl f, hNw⟩, hO, hPd, hOr, ⟨_, hTk⟩, Fr.refl _ _⟩
  · skip
    refine g_aload_n (pc := 50) (pl := 4) X dX9_does_50 rfl ?_
    refine g_iload_n (pc := 51) (pl := 2) X dX9_does_51 rfl ?_
    refine g_iload (pc := 52) (pl := 1) X dX9_does_52 rfl ?_
    refine g_iload (pc := 54) (pl := 0) X dX9_does_54 rfl ?_
    have hkd43 : kd = 43 := by omega
    have q43 := hr43 hkd43
    have qKD := hKD hkd43
    clear hrb hrc hr43 hgb hgc hKD
    obtain ⟨q1, q2⟩ := q43
    subst q1
    subst q2
    refine gVi (pc := 56) (n2 := 0) (k2 := 0) X cs_X9_does_234 (c_X9_writes (zl K) D base y kp pd at' od fi la pc f P n9 a9 (oe1 n9 P p + 1) (ordE n9 P p) hq hI hn9 hPr hu1 (by omega)) rfl hO (by omega) ⟨hO, hNw, hPd⟩ rfl ⟨Nat.le_of_ble_eq_true rfl, Nat.le_of_ble_eq_true rfl⟩ dX9_does_56 (Nat.le_of_ble_eq_true rfl) rfl rfl (fun v56 H1 hp56 hs56 => ?_)
    obtain ⟨hv, ⟨f2, hm2, hNw2⟩, hO2, hPd2, hfg⟩ := hp56
    have hOr2 := hOr.fr hfg (by omega)
    have hTk2 : ∃ T2 : Int → Int, Ia D (y + 10) 120 T2 H1 := ⟨_, hTk.fr hfg (by omega)⟩
    have hFu : Fr (Un (y + 1) (y + 2) (y + 10) (y + 11)) 0 H H1 := hfg.un (by omega)
    have eo : (obP n9 P p f) = wtS n9 P a9 (oe1 n9 P p + 1) (ordE n9 P p) 80 (oe1 n9 P p + 1) (0, f) := eK.trans (if_pos hkd43)
    rw [← eo] at hv hm2
    have hv01 : v56 = 0 ∨ v56 = 1 := by omega
    refine g_zret (pc := 59) X R hH (by first | exact Or.inl rfl | exact Or.inr rfl | omega) dX9_does_59 ?_
    exact ⟨by omega, ⟨f2, hm2, hNw2⟩, hO2, hPd2, hOr2, hTk2, hFu⟩

/-- the place of a text's fault, none is -6; k orders are looked at -/
noncomputable def flt (n : Int) (f : Int → Int) : Nat → Int → Int
  | 0, p => p
  | k + 1, p => @ite Int (ordOk n f p) (Classical.propDecidable _) (if n ≤ ordE n f p then -6 else if itm n f (ordE n f p) = 59 then flt n f k (ordE n f p + 1) else ordE n f p) (ordE n f p)
section
variable {n : Int} {f : Int → Int} {p : Int} {k : Nat}
theorem flt_no (h : ¬ ordOk n f p) : flt n f (k + 1) p = ordE n f p := if_neg h
theorem flt_end (h : ordOk n f p) (h1 : n ≤ ordE n f p) : flt n f (k + 1) p = -6 := (if_pos h).trans (if_pos h1)
theorem flt_go (h : ordOk n f p) (h1 : ¬ n ≤ ordE n f p) (h2 : itm n f (ordE n f p) = 59) : flt n f (k + 1) p = flt n f k (ordE n f p + 1) := ((if_pos h).trans (if_neg h1)).trans (if_pos h2)
theorem flt_bad (h : ordOk n f p) (h1 : ¬ n ≤ ordE n f p) (h2 : ¬ itm n f (ordE n f p) = 59) : flt n f (k + 1) p = ordE n f p := ((if_pos h).trans (if_neg h1)).trans (if_neg h2)
end

abbrev rm_X3_init : Room := { frames := 2, cells := 2, slots := 82, locals := 33 }
theorem cs_X3_init_11 : zCI RX3 wsX3_init 11 yX6_init wsX6_init cX6_init 2 rm_X3_init rm_X6_init 1 := ⟨_, gX3_init_X6_init, Or.inl (by decide +kernel), by decide +kernel, by decide +kernel, rfl, rfl, ⟨by decide +kernel, by decide +kernel, by decide +kernel⟩, ⟨Nat.le_of_ble_eq_true rfl, Nat.le_of_ble_eq_true rfl⟩⟩
theorem zW_X3_init_14 : zW RX3 wsX3_init 3 3 14 true (tyX3 3) := ⟨RX3, TX3, 4, tyX3, rfl, by decide +kernel, by decide, by decide +kernel, tyX3_ok, nmX3, rfl, rfl, rfl⟩
set_option maxRecDepth 100000 in
theorem c_X3_init (l : Launch) (D : zD) (base : Nat) (w : Nat) (hq : base ≤ w) : Ct l yX3_init wsX3_init rm_X3_init D base [.ref w] (fun H => Ob D w 3 [.int (J 0), .int (J 0), .int (J 0), .null] H ∧ H.size = w + 1) (PV (fun H H1 => RdAt D w 0 0 0 0 (fun _ => 0) H1 ∧ Fr (Iv w (w + 3)) 2 H H1)) := by
  refine Ct.of (own := RX3) (cc := cX3_init) (maxL := 1) (by decide +kernel) rfl (Nat.le_of_ble_eq_true rfl) rfl ?_
  intro K H X R hH hnm hP
  show G K 0 0 H 0 [(0, .ref w)] []
  obtain ⟨hO, hsz⟩ := hP
  refine g_aload_n (pc := 0) (pl := 0) X dX3_init_0 rfl ?_
  refine g_objInit (pc := 1) X (by decide +kernel) (by decide +kernel) (by decide +kernel) (by decide) (Nat.le_of_ble_eq_true rfl) dX3_init_1 ?_
  refine g_aload_n (pc := 4) (pl := 0) X dX3_init_4 rfl ?_
  refine g_new (pc := 5) (ci := 6) (C := RX6) (T := TX6) (N := 2) (tys := tyX6) (fs := [.null, .int (J 0)]) (n2 := 1) (k2 := 2) X rfl (by decide +kernel) tyX6_ok (by decide +kernel) (by decide +kernel) (by decide +kernel) (by decide +kernel) (Nat.le_of_ble_eq_true rfl) (Nat.le_of_ble_eq_true rfl) dX3_init_5 rfl rfl (fun H1 hz1 hNew hon1 => ?_)
  rw [hsz] at hNew ⊢
  have hN1 := hNew
  clear hNew
  have hf1 : Fr (Iv 0 0) 1 H H1 := Fr.new hz1 hon1
  replace hsz : H1.size = w + 2 := by have e := hf1.1; omega
  replace hO := hO.fr hf1 (by omega)
  refine g_dup (pc := 8) X dX3_init_8 rfl ?_
  refine g_iconst (pc := 9) X dX3_init_9 ?_
  refine gIv (pc := 10) (n2 := 2) (k2 := 82) X cs_X3_init_11 (c_X6_init (zl K) D base (w + 1) 3 (by omega) (by omega)) rfl (by omega) ⟨hN1, hsz⟩ rfl ⟨(Nat.le_of_ble_eq_true rfl), (Nat.le_of_ble_eq_true rfl)⟩ dX3_init_10 (Nat.le_of_ble_eq_true rfl) rfl rfl (fun H2 hp10 hs10 => ?_)
  obtain ⟨hR1, hfa⟩ := hp10
  replace hsz : H2.size = w + 3 := by have e := hfa.1; omega
  replace hO := hO.fr hfa (by omega)
  refine g_putF (pc := 13) X zW_X3_init_14 hnm rfl hO (by omega) rfl rfl rfl dX3_init_13 (fun H3 hOn hf3 => ?_)
  replace hsz : H3.size = w + 3 := by have e := hf3.1; omega
  replace hR1 := hR1.fr hf3 (by omega)
  replace hO : Ob D w 3 [.int (J 0), .int (J 0), .int (J 0), .ref (w + 1)] H3 := hOn
  clear hOn
  refine g_vret (pc := 16) X R hH dX3_init_16 ?_
  exact ⟨⟨hO, hR1⟩, (Fr.trans hf1.any (Fr.trans (hfa.wide (by omega) (by omega)) (hf3.wide (by omega) (by omega))))⟩

abbrev rm_X3_findFault : Room := { frames := 3, cells := 0, slots := 0, locals := 64 }
theorem cs_X3_findFault_24 : zCV RX3 wsX3_findFault 24 3 yX3_start wsX3_start cX3_start 1 none rm_X3_findFault rm_X3_start 0 := ⟨_, _, gX3_findFault_X3_start, rfl, ⟨by decide +kernel, by decide +kernel, by decide +kernel⟩, ⟨Nat.le_of_ble_eq_true rfl, Nat.le_of_ble_eq_true rfl⟩, rfl, rfl⟩
theorem cs_X3_findFault_27 : zCV RX3 wsX3_findFault 27 3 yX3_readOrder wsX3_readOrder cX3_readOrder 2 (some .boolean) rm_X3_findFault rm_X3_readOrder 1 := ⟨_, _, gX3_findFault_X3_readOrder, rfl, ⟨by decide +kernel, by decide +kernel, by decide +kernel⟩, ⟨Nat.le_of_ble_eq_true rfl, Nat.le_of_ble_eq_true rfl⟩, rfl, rfl⟩
theorem zF_X3_findFault_20 : zF RX3 wsX3_findFault 3 0 20 := ⟨RX3, TX3, 4, rfl, by decide +kernel, by decide, by decide +kernel⟩
theorem zF_X3_findFault_31 : zF RX3 wsX3_findFault 6 1 31 := ⟨RX6, TX6, 2, rfl, by decide +kernel, by decide, by decide +kernel⟩
theorem cs_X3_findFault_34 : zCV RX3 wsX3_findFault 34 3 yX3_skip wsX3_skip cX3_skip 3 (some .boolean) rm_X3_findFault rm_X3_skip 2 := ⟨_, _, gX3_findFault_X3_skip, rfl, ⟨by decide +kernel, by decide +kernel, by decide +kernel⟩, ⟨Nat.le_of_ble_eq_true rfl, Nat.le_of_ble_eq_true rfl⟩, rfl, rfl⟩
set_option maxRecDepth 100000 in
theorem c_X3_findFault (l : Launch) (D : zD) (base : Nat) (w r : Nat) (nx kd lf cn n : Int) (fn f : Int → Int) (hq : base ≤ w) (hr : base ≤ r) (hd : w + 3 ≤ r ∨ r + 2 ≤ w) (hf : ∀ i : Int, 0 ≤ i → i < n → 33 ≤ f i ∧ f i ≤ 126) : Ct l yX3_findFault wsX3_findFault rm_X3_findFault D base [.ref w, .ref r] (fun H => RdAt D w nx kd lf cn fn H ∧ RowAt D r 80 n f H) (PI (fun H v H1 => flt n f 80 0 = v ∧ (∃ (nx kd lf cn : Int) (fn : Int → Int), RdAt D w nx kd lf cn fn H1) ∧ RowAt D r 80 n f H1 ∧ Fr (Iv w (w + 3)) 0 H H1)) := by
  refine Ct.of (own := RX3) (cc := cX3_findFault) (maxL := 3) (by decide +kernel) rfl (Nat.le_of_ble_eq_true rfl) rfl ?_
  intro K H X R hH hnm hP
  show G K 0 0 H 0 [(0, .ref w), (1, .ref r)] []
  have hRd := hP.1
  obtain ⟨⟨hO, hNu⟩, hF⟩ := hP
  have hbd := hF.bd
  have hbn := hNu.bd
  have hit : ∀ p : Int, -1 ≤ itm n f p ∧ itm n f p ≤ 126 := fun p => by unfold itm; split; (next c => have := hf p c.1 c.2; omega); omega
  refine g_aload_n (pc := 0) (pl := 0) X dX3_findFault_0 rfl ?_
  refine gVv (pc := 1) (n2 := 0) (k2 := 0) X cs_X3_findFault_24 (c_X3_start (zl K) D base w nx kd lf cn fn hq) rfl hO (by omega) hRd rfl ⟨Nat.le_of_ble_eq_true rfl, Nat.le_of_ble_eq_true rfl⟩ dX3_findFault_1 (Nat.le_of_ble_eq_true rfl) rfl rfl (fun H1 hp1 hs1 => ?_)
  obtain ⟨⟨hOn, hNun⟩, hf0⟩ := hp1
  replace hF := hF.fr hf0 (by omega)
  clear hRd hO hNu
  have hO := hOn
  have hNu := hNun
  clear hOn hNun
  refine g_iconst (pc := 4) X dX3_findFault_4 ?_
  refine g_istore_n (pc := 5) (lv' := [(2, _), (0, _), (1, _)]) X dX3_findFault_5 (by decide) rfl ?_
  have hL6 : ∀ (fu : Nat) (k : Nat) (ki p kx lx cx : Int) (fx : Int → Int) (Hx : Heap), 80 - k < fu → (ki = (k : Int)) → (3 * (k : Int) ≤ p ∧ p ≤ n ∧ k ≤ 80) → (flt n f 80 0 = flt n f (80 - k) p) → (Ob D w 3 [.int (J p), .int (J kx), .int (J lx), .ref (w + 1)] Hx) → (RowAt D (w + 1) 3 cx fx Hx) → (RowAt D r 80 n f Hx) → (Fr (Iv w (w + 3)) 0 H Hx) → G K 0 0 Hx 6 [(0, .ref w), (1, .ref r), (2, .int (J ki))] [] := by
    intro fu
    induction fu with
    | zero => intro k ki p kx lx cx fx Hx hm; exact absurd hm (Nat.not_lt_zero _)
    | succ fu ih6 =>
      intro k ki p kx lx cx fx Hx hm he h1 hfl hO hNu hF h3
      subst he
      refine g_iload_n (pc := 6) (pl := 2) X dX3_findFault_6 rfl ?_
      refine g_bipush (pc := 7) X dX3_findFault_7 (by decide +kernel) ?_
      refine g_icmp_ge (pc := 9) X 60 dX3_findFault_9 (by decide) (by omega) (by omega) (fun c9 => ?_) (fun c9 => ?_)
      · skip
        omega
      · skip
        refine g_aload_n (pc := 12) (pl := 0) X dX3_findFault_12 rfl ?_
        refine g_aload_n (pc := 13) (pl := 1) X dX3_findFault_13 rfl ?_
        refine gVi (pc := 14) (n2 := 0) (k2 := 0) X cs_X3_findFault_27 (c_X3_readOrder (zl K) D base w r p kx lx cx n fx f hq hr hd (by omega) hf) rfl hO (by omega) ⟨⟨hO, hNu⟩, hF⟩ rfl ⟨Nat.le_of_ble_eq_true rfl, Nat.le_of_ble_eq_true rfl⟩ dX3_findFault_14 (Nat.le_of_ble_eq_true rfl) rfl rfl (fun v14 H2 hp14 hs14 => ?_)
        rcases hp14 with ⟨lf2, cn2, fn2, ⟨hk, rfl⟩ | ⟨hk, rfl⟩, ⟨hO, hNu⟩, hNF, hF, hfr⟩
        · skip
          have hob := ordE_bd (n := n) (f := f) (p := p) (by omega) (by omega)
          have hob2 := hob.2.2 hk
          refine g_if_ne (pc := 17) X 25 dX3_findFault_17 (by decide) (by omega) (fun c17 => ?_) (fun c17 => ?_)
          · skip
            refine g_aload_n (pc := 25) (pl := 0) X dX3_findFault_25 rfl ?_
            refine g_getf (pc := 26) X zF_X3_findFault_20 hO rfl dX3_findFault_26 ?_
            refine g_aload_n (pc := 29) (pl := 1) X dX3_findFault_29 rfl ?_
            obtain ⟨hFO, -⟩ := id hF
            refine g_getf (pc := 30) X zF_X3_findFault_31 hFO rfl dX3_findFault_30 ?_
            refine g_icmp_lt (pc := 33) X 39 dX3_findFault_33 (by decide) (by omega) (by omega) (fun c33 => ?_) (fun c33 => ?_)
            · skip
              refine g_aload_n (pc := 39) (pl := 0) X dX3_findFault_39 rfl ?_
              refine g_aload_n (pc := 40) (pl := 1) X dX3_findFault_40 rfl ?_
              refine g_bipush (pc := 41) X dX3_findFault_41 (by decide +kernel) ?_
              refine gVi (pc := 43) (n2 := 0) (k2 := 0) X cs_X3_findFault_34 (c_X3_skip (zl K) D base w r (ordE n f p) (itm n f p) lf2 cn2 n fn2 f 59 hq hr hd (by omega) hf (by omega)) rfl hO (by omega) ⟨⟨hO, hNu⟩, hF⟩ rfl ⟨Nat.le_of_ble_eq_true rfl, Nat.le_of_ble_eq_true rfl⟩ dX3_findFault_43 (Nat.le_of_ble_eq_true rfl) rfl rfl (fun v43 H3 hp43 hs43 => ?_)
              rcases hp43 with ⟨hc, rfl, ⟨hO, hNu⟩, hF, hfs⟩ | ⟨hc, rfl, rfl⟩
              · skip
                refine g_if_ne (pc := 46) X 54 dX3_findFault_46 (by decide) (by omega) (fun c46 => ?_) (fun c46 => ?_)
                · skip
                  refine g_iinc (pc := 54) (pl := 2) (x := (k : Int)) (lv' := [(2, _), (0, _), (1, _)]) X dX3_findFault_54 rfl (by decide) rfl ?_
                  refine g_goto (pc := 57) X 6 dX3_findFault_57 (by decide) ?_
                  refine G.pick [1, 2, 0] (lv' := [(0, _), (1, _), (2, _)]) rfl ?_
                  have e9 := flt_go (k := 80 - (k + 1)) hk (by omega) hc
                  rw [show 80 - (k + 1) + 1 = 80 - k by omega] at e9
                  exact ih6 (k + 1) _ _ _ _ _ _ H3 (by omega) (by omega) (by omega) (hfl.trans e9) hO hNu hF (Fr.trans (h3.wide (by omega) (by omega)) (Fr.trans (hfr.wide (by omega) (by omega)) (hfs.wide (by omega) (by omega))))
                · skip
                  exact absurd c46 (by decide)
              · skip
                refine g_if_ne (pc := 46) X 54 dX3_findFault_46 (by decide) (by omega) (fun c46 => ?_) (fun c46 => ?_)
                · skip
                  exact absurd c46 (by decide)
                · skip
                  refine g_aload_n (pc := 49) (pl := 0) X dX3_findFault_49 rfl ?_
                  refine g_getf (pc := 50) X zF_X3_findFault_20 hO rfl dX3_findFault_50 ?_
                  refine g_iret (pc := 53) X R hH dX3_findFault_53 ?_
                  have e9 := flt_bad (k := 80 - (k + 1)) hk (by omega) hc
                  rw [show 80 - (k + 1) + 1 = 80 - k by omega] at e9
                  exact ⟨hfl.trans e9, ⟨_, _, _, _, _, hO, hNu⟩, hF, (Fr.trans (h3.wide (by omega) (by omega)) (hfr.wide (by omega) (by omega)))⟩
            · skip
              refine g_bipush (pc := 36) X dX3_findFault_36 (by decide +kernel) ?_
              refine g_iret (pc := 38) X R hH dX3_findFault_38 ?_
              have e9 := flt_end (k := 80 - (k + 1)) hk (by omega)
              rw [show 80 - (k + 1) + 1 = 80 - k by omega] at e9
              exact ⟨hfl.trans e9, ⟨_, _, _, _, _, hO, hNu⟩, hF, (Fr.trans (h3.wide (by omega) (by omega)) (hfr.wide (by omega) (by omega)))⟩
          · skip
            exact absurd c17 (by decide)
        · skip
          have hob := ordE_bd (n := n) (f := f) (p := p) (by omega) (by omega)
          refine g_if_ne (pc := 17) X 25 dX3_findFault_17 (by decide) (by omega) (fun c17 => ?_) (fun c17 => ?_)
          · skip
            exact absurd c17 (by decide)
          · skip
            refine g_aload_n (pc := 20) (pl := 0) X dX3_findFault_20 rfl ?_
            refine g_getf (pc := 21) X zF_X3_findFault_20 hO rfl dX3_findFault_21 ?_
            refine g_iret (pc := 24) X R hH dX3_findFault_24 ?_
            have e9 := flt_no (k := 80 - (k + 1)) hk
            rw [show 80 - (k + 1) + 1 = 80 - k by omega] at e9
            exact ⟨hfl.trans e9, ⟨_, _, _, _, _, hO, hNu⟩, hF, (Fr.trans (h3.wide (by omega) (by omega)) (hfr.wide (by omega) (by omega)))⟩
  refine G.pick [1, 2, 0] (lv' := [(0, _), (1, _), (2, _)]) rfl ?_
  exact hL6 _ 0 _ 0 kd lf cn fn H1 (Nat.lt_succ_self _) rfl (by omega) rfl hO hNu hF (hf0.wide (by omega) (by omega))

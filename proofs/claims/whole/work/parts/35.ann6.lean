theorem obK_eq {n : Int} {f : Int → Int} {kd a b b' c c' lf lf' nx : Int} {g : Int → Int} (hb : kd = 45 ∨ kd = 109 ∨ kd = 110 → b = b') (hc : kd = 109 → c = c') (hl : kd = 43 → lf = lf') : obK n f kd a b c lf nx g = obK n f kd a b' c' lf' nx g := by
  unfold obK
  by_cases c1 : kd = 43
  · rw [if_pos c1, if_pos c1, hl c1]
  · rw [if_neg c1, if_neg c1]
    by_cases c2 : kd = 45
    · rw [if_pos c2, if_pos c2, hb (Or.inl c2)]
    · rw [if_neg c2, if_neg c2]
      by_cases c3 : kd = 99
      · rw [if_pos c3, if_pos c3]
      · rw [if_neg c3, if_neg c3]
        by_cases c4 : kd = 109
        · rw [if_pos c4, if_pos c4, hb (Or.inr (Or.inl c4)), hc c4]
        · rw [if_neg c4, if_neg c4]
          by_cases c5 : kd = 110
          · rw [if_pos c5, if_pos c5, hb (Or.inr (Or.inr c5))]
          · rw [if_neg c5, if_neg c5]
/-- the order at p is carried out -/
def obP (n : Int) (f : Int → Int) (p : Int) (g : Int → Int) : Int × (Int → Int) := obK n f (itm n f p) (oA n f p) (oB n f p) (oC n f p) (oe1 n f p + 1) (ordE n f p) g
def nxP (n : Int) (f : Int → Int) (p : Int) : Int := if itm n f (ordE n f p) = 59 then ordE n f p + 1 else ordE n f p
/-- orders are carried out from p on; d were done -/
noncomputable def caL (n : Int) (f : Int → Int) : Nat → Int → Int → (Int → Int) → Int × (Int → Int)
  | 0, _, d, g => (d, g)
  | k + 1, p, d, g => @ite (Int × (Int → Int)) (ordOk n f p) (Classical.propDecidable _) (if (obP n f p g).1 < 0 then (d, (obP n f p g).2) else caL n f k (nxP n f p) (d + 1) (obP n f p g).2) (d, g)
noncomputable def cyR (n : Int) (f : Int → Int) (g : Int → Int) : Int := if ¬ flt n f 80 0 = -6 then -3 else (caL n f 80 0 0 g).1
noncomputable def cyG (n : Int) (f : Int → Int) (g : Int → Int) : Int → Int := if ¬ flt n f 80 0 = -6 then g else (caL n f 80 0 0 g).2
noncomputable def cyN (n : Int) (f : Int → Int) : Int := if ¬ flt n f 80 0 = -6 then n else 0
section
variable {n : Int} {f : Int → Int} {p d : Int} {g : Int → Int} {k : Nat}
theorem caL_no (h : ¬ ordOk n f p) : caL n f (k + 1) p d g = (d, g) := if_neg h
theorem caL_stop (h : ordOk n f p) (h1 : (obP n f p g).1 < 0) : caL n f (k + 1) p d g = (d, (obP n f p g).2) := (if_pos h).trans (if_pos h1)
theorem caL_go (h : ordOk n f p) (h1 : ¬ (obP n f p g).1 < 0) : caL n f (k + 1) p d g = caL n f k (nxP n f p) (d + 1) (obP n f p g).2 := (if_pos h).trans (if_neg h1)
theorem flt_bd : ∀ (k : Nat) (p : Int), 0 ≤ p → p ≤ n → -6 ≤ flt n f k p ∧ flt n f k p ≤ n
  | 0, p, h0, h1 => ⟨by show -6 ≤ p; omega, by show p ≤ n; omega⟩
  | k + 1, p, h0, h1 => by
    have hb := ordE_bd (n := n) (f := f) (p := p) h0 h1
    by_cases c : ordOk n f p
    · by_cases c1 : n ≤ ordE n f p
      · rw [flt_end c c1]; omega
      · by_cases c2 : itm n f (ordE n f p) = 59
        · rw [flt_go c c1 c2]; exact flt_bd k _ (by omega) (by omega)
        · rw [flt_bad c c1 c2]; omega
    · rw [flt_no c]; omega
theorem ord_num (h : ordOk n f p) : (0 ≤ oA n f p ∧ oA n f p ≤ 99) ∧ (itm n f p = 45 ∨ itm n f p = 109 ∨ itm n f p = 110 → 0 ≤ oB n f p ∧ oB n f p ≤ 99) ∧ (itm n f p = 109 → 0 ≤ oC n f p ∧ oC n f p ≤ 99) ∧ (itm n f p = 43 → p + 1 < oe1 n f p ∧ oe1 n f p + 1 ≤ ordE n f p) := by
  rcases h with ⟨h1, h2, h3, h4⟩ | ⟨h1, h2, h3, h4⟩ | ⟨h1, ⟨h2, h3, h4⟩, h5, h6⟩ | ⟨h1, h2⟩
  · have a := num_bd h2
    have e : ordE n f p = ltE n f (oe1 n f p + 1) := (o_plus3 h1 h2 h3).1
    have e2 : oe1 n f p = numE n f (p + 1) := rfl
    exact ⟨⟨a.2.2.2.1, a.2.2.2.2⟩, fun z => by omega, fun z => by omega, fun _ => by omega⟩
  · have a := num_bd h2
    have b := num_bd h4
    exact ⟨⟨a.2.2.2.1, a.2.2.2.2⟩, fun _ => ⟨b.2.2.2.1, b.2.2.2.2⟩, fun z => by omega, fun z => by omega⟩
  · have a := num_bd h2
    have b := num_bd h4
    have c := num_bd h6
    exact ⟨⟨a.2.2.2.1, a.2.2.2.2⟩, fun _ => ⟨b.2.2.2.1, b.2.2.2.2⟩, fun _ => ⟨c.2.2.2.1, c.2.2.2.2⟩, fun z => by omega⟩
  · have a := num_bd h2
    exact ⟨⟨a.2.2.2.1, a.2.2.2.2⟩, fun z => by omega, fun z => by omega, fun z => by omega⟩
theorem ord_args {cn2 lf2 : Int} {fn2 : Int → Int} (hk : ordOk n f p) (h0 : 0 ≤ p ∧ p ≤ n) (hNF : 1 ≤ cn2 ∧ fn2 0 = oA n f p ∧ (itm n f p = 45 ∨ itm n f p = 110 ∨ itm n f p = 109 → 2 ≤ cn2 ∧ fn2 1 = oB n f p) ∧ (itm n f p = 109 → 3 ≤ cn2 ∧ fn2 2 = oC n f p) ∧ (itm n f p = 43 → lf2 = oe1 n f p + 1)) :
    (-1 ≤ itm cn2 fn2 0 ∧ itm cn2 fn2 0 ≤ 100) ∧ (itm n f p = 45 ∨ itm n f p = 109 ∨ itm n f p = 110 → -1 ≤ itm cn2 fn2 1 ∧ itm cn2 fn2 1 ≤ 100) ∧ (itm n f p = 109 → -1 ≤ itm cn2 fn2 2 ∧ itm cn2 fn2 2 ≤ 100) ∧ (itm n f p = 43 → 0 ≤ lf2 ∧ lf2 ≤ ordE n f p ∧ ordE n f p ≤ n) ∧
    ∀ g9 : Int → Int, obK n f (itm n f p) (itm cn2 fn2 0) (itm cn2 fn2 1) (itm cn2 fn2 2) lf2 (ordE n f p) g9 = obP n f p g9 := by
  obtain ⟨n1, n2, n3, n4⟩ := ord_num hk
  obtain ⟨m1, m2, m3, m4, m5⟩ := hNF
  have hob := ordE_bd (n := n) (f := f) h0.1 h0.2
  have i0 : itm cn2 fn2 0 = oA n f p := (if_pos ⟨Int.le_refl 0, by clear n2 n3 n4 m3 m4 m5; omega⟩).trans m2
  have i1 : itm n f p = 45 ∨ itm n f p = 109 ∨ itm n f p = 110 → itm cn2 fn2 1 = oB n f p := fun z => by
    have y := m3 (by clear n2 n3 n4 m3 m4 m5; omega)
    exact (if_pos ⟨by omega, by clear n2 n3 n4 m3 m4 m5; omega⟩).trans y.2
  have i2 : itm n f p = 109 → itm cn2 fn2 2 = oC n f p := fun z => by
    have y := m4 z
    exact (if_pos ⟨by omega, by clear n2 n3 n4 m3 m4 m5; omega⟩).trans y.2
  refine ⟨?_, fun z => ?_, fun z => ?_, fun z => ?_, fun g9 => ?_⟩
  · rw [i0]; clear n2 n3 n4 m3 m4 m5; omega
  · rw [i1 z]; have y := n2 z; clear n2 n3 n4 m3 m4 m5 i1 i2 hob; omega
  · rw [i2 z]; have y := n3 z; clear n2 n3 n4 m3 m4 m5 i1 i2 hob; omega
  · have y := m5 z
    have y2 := n4 z
    have y3 := hob.2.1
    clear n2 n3 n4 m3 m4 m5 i1 i2 hob
    omega
  · rw [obK_eq i1 i2 m5, i0]; rfl
end

abbrev rm_X8_carryOut : Room := { frames := 6, cells := 121, slots := 4272, locals := 149 }
theorem zF_X8_carryOut_42 : zF RX8 wsX8_carryOut 8 4 42 := ⟨RX8, TX8, 7, rfl, by decide +kernel, by decide, by decide +kernel⟩
theorem zF_X8_carryOut_35 : zF RX8 wsX8_carryOut 8 3 35 := ⟨RX8, TX8, 7, rfl, by decide +kernel, by decide, by decide +kernel⟩
theorem cs_X8_carryOut_221 : zCV RX8 wsX8_carryOut 221 3 yX3_findFault wsX3_findFault cX3_findFault 3 (some .int) rm_X8_carryOut rm_X3_findFault 1 := ⟨_, _, gX8_carryOut_X3_findFault, rfl, ⟨by decide +kernel, by decide +kernel, by decide +kernel⟩, ⟨Nat.le_of_ble_eq_true rfl, Nat.le_of_ble_eq_true rfl⟩, rfl, rfl⟩
theorem zF_X8_carryOut_49 : zF RX8 wsX8_carryOut 8 5 49 := ⟨RX8, TX8, 7, rfl, by decide +kernel, by decide, by decide +kernel⟩
theorem zF_X8_carryOut_10 : zF RX8 wsX8_carryOut 8 0 10 := ⟨RX8, TX8, 7, rfl, by decide +kernel, by decide, by decide +kernel⟩
theorem cs_X8_carryOut_57 : zCV RX8 wsX8_carryOut 57 0 yX0_keep wsX0_keep cX0_keep 3 none rm_X8_carryOut rm_X0_keep 1 := ⟨_, _, gX8_carryOut_X0_keep, rfl, ⟨by decide +kernel, by decide +kernel, by decide +kernel⟩, ⟨Nat.le_of_ble_eq_true rfl, Nat.le_of_ble_eq_true rfl⟩, rfl, rfl⟩
theorem cs_X8_carryOut_225 : zCV RX8 wsX8_carryOut 225 3 yX3_start wsX3_start cX3_start 1 none rm_X8_carryOut rm_X3_start 0 := ⟨_, _, gX8_carryOut_X3_start, rfl, ⟨by decide +kernel, by decide +kernel, by decide +kernel⟩, ⟨Nat.le_of_ble_eq_true rfl, Nat.le_of_ble_eq_true rfl⟩, rfl, rfl⟩
theorem cs_X8_carryOut_218 : zCV RX8 wsX8_carryOut 218 6 yX6_clear wsX6_clear cX6_clear 1 none rm_X8_carryOut rm_X6_clear 0 := ⟨_, _, gX8_carryOut_X6_clear, rfl, ⟨by decide +kernel, by decide +kernel, by decide +kernel⟩, ⟨Nat.le_of_ble_eq_true rfl, Nat.le_of_ble_eq_true rfl⟩, rfl, rfl⟩
theorem cs_X8_carryOut_65 : zCV RX8 wsX8_carryOut 65 0 yX0_confirm wsX0_confirm cX0_confirm 2 (some .int) rm_X8_carryOut rm_X0_confirm 1 := ⟨_, _, gX8_carryOut_X0_confirm, rfl, ⟨by decide +kernel, by decide +kernel, by decide +kernel⟩, ⟨Nat.le_of_ble_eq_true rfl, Nat.le_of_ble_eq_true rfl⟩, rfl, rfl⟩
theorem cs_X8_carryOut_228 : zCV RX8 wsX8_carryOut 228 3 yX3_readOrder wsX3_readOrder cX3_readOrder 2 (some .boolean) rm_X8_carryOut rm_X3_readOrder 1 := ⟨_, _, gX8_carryOut_X3_readOrder, rfl, ⟨by decide +kernel, by decide +kernel, by decide +kernel⟩, ⟨Nat.le_of_ble_eq_true rfl, Nat.le_of_ble_eq_true rfl⟩, rfl, rfl⟩
theorem cs_X8_carryOut_232 : zCV RX8 wsX8_carryOut 232 8 yX8_obey wsX8_obey cX8_obey 3 (some .int) rm_X8_carryOut rm_X8_obey 0 := ⟨_, _, gX8_carryOut_X8_obey, rfl, ⟨by decide +kernel, by decide +kernel, by decide +kernel⟩, ⟨Nat.le_of_ble_eq_true rfl, Nat.le_of_ble_eq_true rfl⟩, rfl, rfl⟩
theorem cs_X8_carryOut_235 : zCV RX8 wsX8_carryOut 235 3 yX3_skip wsX3_skip cX3_skip 3 (some .boolean) rm_X8_carryOut rm_X3_skip 2 := ⟨_, _, gX8_carryOut_X3_skip, rfl, ⟨by decide +kernel, by decide +kernel, by decide +kernel⟩, ⟨Nat.le_of_ble_eq_true rfl, Nat.le_of_ble_eq_true rfl⟩, rfl, rfl⟩
set_option maxRecDepth 100000 in
theorem c_X8_carryOut (l : Launch) (D : zD) (base : Nat) (x lo : Nat) (m : Int) (sa sl : Int → Option Nat) (st ss : Int → Int → Int) (g : Int → Int) (n : Int) (f : Int → Int) (hq : base ≤ x) (hlo : x + 151 ≤ lo) (hI : PInv g) (hf : ∀ i : Int, 0 ≤ i → i < n → 33 ≤ f i ∧ f i ≤ 126) : Ct l yX8_carryOut wsX8_carryOut rm_X8_carryOut D base [.ref x] (fun H => AnAt D x lo m sa sl st ss g n f H ∧ lo ≤ H.size) (PI (fun H v H1 => cyR n f g = v ∧ ∃ sa2 : Int → Option Nat, AnAt D x lo (hsN m (cyR n f g)) sa2 sl (hsS m (cyR n f g) st g) ss (cyG n f g) (cyN n f) f H1 ∧ Fx x lo H H1)) := by
  refine Ct.of (own := RX8) (cc := cX8_carryOut) (maxL := 2) (by decide +kernel) rfl (Nat.le_of_ble_eq_true rfl) rfl ?_
  intro K H X R hH hnm hP
  show G K 0 0 H 0 [(0, .ref x)] []
  obtain ⟨hA, hls⟩ := hP
  obtain ⟨hO, hPg, hMg, hSc, hPd, hRd, hHs, hSl⟩ := id hA
  have hm0 : 0 ≤ m ∧ m ≤ 6 := hHs.2.2.2.2
  have hPd0 := hPd.bd
  have hit : ∀ p : Int, -1 ≤ itm n f p ∧ itm n f p ≤ 126 := fun p => by unfold itm; split; (next c => have := hf p c.1 c.2; omega); omega
  refine g_aload_n (pc := 0) (pl := 0) X dX8_carryOut_0 rfl ?_
  refine g_getf (pc := 1) X zF_X8_carryOut_42 hO rfl dX8_carryOut_1 ?_
  refine g_aload_n (pc := 4) (pl := 0) X dX8_carryOut_4 rfl ?_
  refine g_getf (pc := 5) X zF_X8_carryOut_35 hO rfl dX8_carryOut_5 ?_
  obtain ⟨nx, kd, lf, cn, fn, hRd0⟩ := id hRd
  obtain ⟨hRdO, -⟩ := id hRd0
  refine gVi (pc := 8) (n2 := 0) (k2 := 0) X cs_X8_carryOut_221 (c_X3_findFault (zl K) D base (x + 134) (x + 132) nx kd lf cn n fn f (by omega) (by omega) (by omega) hf) rfl hRdO (by omega) ⟨hRd0, hPd⟩ rfl ⟨Nat.le_of_ble_eq_true rfl, Nat.le_of_ble_eq_true rfl⟩ dX8_carryOut_8 (Nat.le_of_ble_eq_true rfl) rfl rfl (fun v8 H1 hp8 hs8 => ?_)
  obtain ⟨rfl, hRd1, hPd1, hfq⟩ := hp8
  have hA1 := hA.read hfq hRd1 hlo
  have hls1 : lo ≤ H1.size := by have := hfq.1; omega
  have hfb := flt_bd (n := n) (f := f) 80 0 (by omega) (by omega)
  have hFr := Fx.of (x := x) (lo := lo) hfq (by omega)
  clear hA hRdO hRd0 hO hPg hMg hSc hPd hRd hHs hSl
  have hA := hA1
  have hls := hls1
  clear hA1 hls1
  obtain ⟨hO, hPg, hMg, hSc, hPd, hRd, hHs, hSl⟩ := id hA
  refine g_bipush (pc := 11) X dX8_carryOut_11 (by decide +kernel) ?_
  refine g_icmp_eq (pc := 13) X 19 dX8_carryOut_13 (by decide) (by omega) (by omega) (fun c13 => ?_) (fun c13 => ?_)
  · skip
    have hfl : flt n f 80 0 = -6 := c13
    refine g_aload_n (pc := 19) (pl := 0) X dX8_carryOut_19 rfl ?_
    refine g_getf (pc := 20) X zF_X8_carryOut_49 hO rfl dX8_carryOut_20 ?_
    refine g_aload_n (pc := 23) (pl := 0) X dX8_carryOut_23 rfl ?_
    refine g_getf (pc := 24) X zF_X8_carryOut_10 hO rfl dX8_carryOut_24 ?_
    obtain ⟨hHO, -⟩ := id hHs
    refine gVv (pc := 27) (n2 := 121) (k2 := 4272) X cs_X8_carryOut_57 (c_X0_keep (zl K) D base (x + 137) lo (x + 1) m sa st g (by omega) (by omega) (by omega) (by omega)) rfl hHO (by omega) ⟨hHs, hPg, hls⟩ rfl ⟨(Nat.le_of_ble_eq_true rfl), (Nat.le_of_ble_eq_true rfl)⟩ dX8_carryOut_27 (Nat.le_of_ble_eq_true rfl) rfl rfl (fun H2 hp27 hs27 => ?_)
    obtain ⟨sa1, a1, hsa, hal, hA1, hPa, hF1⟩ := hA.keep hlo hls hp27
    clear hA hHO hO hPg hMg hSc hPd hRd hHs hSl
    have hA := hA1
    clear hA1
    obtain ⟨hO, hPg, hMg, hSc, hPd, hRd, hHs, hSl⟩ := id hA
    refine g_iconst (pc := 30) X dX8_carryOut_30 ?_
    refine g_istore_n (pc := 31) (lv' := [(1, _), (0, _)]) X dX8_carryOut_31 (by decide) rfl ?_
    refine g_aload_n (pc := 32) (pl := 1) X dX8_carryOut_32 rfl ?_
    refine g_getf (pc := 33) X zF_X8_carryOut_42 hO rfl dX8_carryOut_33 ?_
    obtain ⟨nx0, kd0, lf0, cn0, fn0, hRd0⟩ := id hRd
    obtain ⟨hRdO, -⟩ := id hRd0
    refine gVv (pc := 36) (n2 := 121) (k2 := 4272) X cs_X8_carryOut_225 (c_X3_start (zl K) D base (x + 134) nx0 kd0 lf0 cn0 fn0 (by omega)) rfl hRdO (by omega) hRd0 rfl ⟨Nat.le_of_ble_eq_true rfl, Nat.le_of_ble_eq_true rfl⟩ dX8_carryOut_36 (Nat.le_of_ble_eq_true rfl) rfl rfl (fun H3 hp36 hs36 => ?_)
    obtain ⟨hRd1, hfs⟩ := hp36
    have hA1 := hA.read hfs ⟨_, _, _, _, _, hRd1⟩ hlo
    have hPa1 := hPa.fr hfs (by omega)
    have hF2 := (hFr.trans hF1).trans (Fx.of hfs (by omega))
    have hL39 : ∀ (fu : Nat) (k : Nat) (d p kx lx cx : Int) (fx g9 : Int → Int) (Hx : Heap), 80 - k < fu → (d = (k : Int) ∧ d ≤ 80) → (0 ≤ p ∧ p ≤ n) → (caL n f 80 0 0 g = caL n f (80 - k) p d g9) → (PInv g9) → (AnAt D x lo m sa1 sl st ss g9 n f Hx) → (RdAt D (x + 134) p kx lx cx fx Hx) → (PageAt D a1 g Hx) → (Fx x lo H Hx) → G K 121 4272 Hx 39 [(0, .ref x), (1, .int (J d))] [] := by
      intro fu
      induction fu with
      | zero => intro k d p kx lx cx fx g9 Hx hm; exact absurd hm (Nat.not_lt_zero _)
      | succ fu ih39 =>
        intro k d p kx lx cx fx g9 Hx hm hd h1 hw hI9 hA hRdx hPa hFz
        obtain ⟨hO, hPg, hMg, hSc, hPd, hRd, hHs, hSl⟩ := id hA
        refine g_iload_n (pc := 39) (pl := 1) X dX8_carryOut_39 rfl ?_
        refine g_bipush (pc := 40) X dX8_carryOut_40 (by decide +kernel) ?_
        refine g_icmp_ge (pc := 42) X 86 dX8_carryOut_42 (by decide) (by omega) (by omega) (fun c42 => ?_) (fun c42 => ?_)
        · skip
          have ek : 80 - k = 0 := by omega
          have hE : caL n f 80 0 0 g = (d, g9) := by rw [hw, ek]; rfl
          have hF2 := hFz
          refine g_aload_n (pc := 86) (pl := 0) X dX8_carryOut_86 rfl ?_
          refine g_getf (pc := 87) X zF_X8_carryOut_35 hO rfl dX8_carryOut_87 ?_
          obtain ⟨hRO, -⟩ := id hPd
          refine gVv (pc := 90) (n2 := 121) (k2 := 4272) X cs_X8_carryOut_218 (c_X6_clear (zl K) D base (x + 132) 80 n f (by omega)) rfl hRO (by omega) hPd rfl ⟨Nat.le_of_ble_eq_true rfl, Nat.le_of_ble_eq_true rfl⟩ dX8_carryOut_90 (Nat.le_of_ble_eq_true rfl) rfl rfl (fun H4 hp90 hs90 => ?_)
          obtain ⟨hPn, hfq9⟩ := hp90
          have hA1 := hA.pad hfq9 hPn hlo
          have hPa1 := hPa.fr hfq9 (by omega)
          have hF9 := hF2.trans (Fx.of hfq9 (by omega))
          clear hA hPa hRO hO hPg hMg hSc hPd hRd hHs hSl
          have hA := hA1
          have hPa := hPa1
          clear hA1 hPa1
          obtain ⟨hO, hPg, hMg, hSc, hPd, hRd, hHs, hSl⟩ := id hA
          refine g_aload_n (pc := 93) (pl := 0) X dX8_carryOut_93 rfl ?_
          refine g_getf (pc := 94) X zF_X8_carryOut_49 hO rfl dX8_carryOut_94 ?_
          refine g_iload_n (pc := 97) (pl := 1) X dX8_carryOut_97 rfl ?_
          obtain ⟨hHO, -⟩ := id hHs
          refine gVi (pc := 98) (n2 := 121) (k2 := 4272) X cs_X8_carryOut_65 (c_X0_confirm (zl K) D base (x + 137) lo m d sa1 st a1 g (by omega) (by have := hd; omega) (by omega) hsa) rfl hHO (by omega) ⟨hHs, hPa⟩ rfl ⟨Nat.le_of_ble_eq_true rfl, Nat.le_of_ble_eq_true rfl⟩ dX8_carryOut_98 (Nat.le_of_ble_eq_true rfl) rfl rfl (fun v98 H5 hp98 hs98 => ?_)
          obtain ⟨sa2, hA2, hF3⟩ := hA.conf hlo hp98
          obtain ⟨rfl, -⟩ := hp98
          refine g_iret (pc := 101) X R hH dX8_carryOut_101 ?_
          have eR : cyR n f g = d := (if_neg (fun z => z hfl)).trans (by rw [hE])
          have eG : cyG n f g = g9 := (if_neg (fun z => z hfl)).trans (by rw [hE])
          have eN : cyN n f = 0 := if_neg (fun z => z hfl)
          rw [eR, eG, eN]
          exact ⟨rfl, sa2, hA2, hF9.trans hF3⟩
        · skip
          refine g_aload_n (pc := 45) (pl := 0) X dX8_carryOut_45 rfl ?_
          refine g_getf (pc := 46) X zF_X8_carryOut_42 hO rfl dX8_carryOut_46 ?_
          refine g_aload_n (pc := 49) (pl := 0) X dX8_carryOut_49 rfl ?_
          refine g_getf (pc := 50) X zF_X8_carryOut_35 hO rfl dX8_carryOut_50 ?_
          obtain ⟨hRdO, -⟩ := id hRdx
          refine gVi (pc := 53) (n2 := 121) (k2 := 4272) X cs_X8_carryOut_228 (c_X3_readOrder (zl K) D base (x + 134) (x + 132) p kx lx cx n fx f (by omega) (by omega) (by omega) (by omega) hf) rfl hRdO (by omega) ⟨hRdx, hPd⟩ rfl ⟨Nat.le_of_ble_eq_true rfl, Nat.le_of_ble_eq_true rfl⟩ dX8_carryOut_53 (Nat.le_of_ble_eq_true rfl) rfl rfl (fun v53 H4 hp53 hs53 => ?_)
          rcases hp53 with ⟨lf2, cn2, fn2, ⟨hk, rfl⟩ | ⟨hk, rfl⟩, hRd2, hNF, hPd2, hfr⟩
          · skip
            have hob := ordE_bd (n := n) (f := f) (p := p) (by omega) (by omega)
            have hA1 := hA.read hfr ⟨_, _, _, _, _, hRd2⟩ hlo
            have hPa1 := hPa.fr hfr (by omega)
            have hF2 := hFz.trans (Fx.of hfr (by omega))
            clear hA hPa hRdO hO hPg hMg hSc hPd hRd hHs hSl
            have hA := hA1
            have hPa := hPa1
            clear hA1 hPa1
            obtain ⟨hO, hPg, hMg, hSc, hPd, hRd, hHs, hSl⟩ := id hA
            have hob2 := hob.2.2 hk
            refine g_if_eq (pc := 56) X 86 dX8_carryOut_56 (by decide) (by omega) (fun c56 => ?_) (fun c56 => ?_)
            · skip
              exact absurd c56 (by decide)
            · skip
              refine g_aload_n (pc := 59) (pl := 0) X dX8_carryOut_59 rfl ?_
              have hkd : -1 ≤ itm n f p ∧ itm n f p ≤ 126 := hit p
              have hkd2 : rg (itm n f p) := by omega
              obtain ⟨hj0, hj1, hj2, hj3, eK⟩ := ord_args hk h1 (hNF hk)
              clear hNF
              have hok := obK_ok (n := n) (f := f) (kd := itm n f p) (a := oA n f p) (b := oB n f p) (c := oC n f p) (lf := oe1 n f p + 1) (nx := ordE n f p) hI9
              refine gVi (pc := 60) (n2 := 121) (k2 := 4272) X cs_X8_carryOut_232 (c_X8_obey (zl K) D base x lo m sa1 sl st ss g9 n f (ordE n f p) (itm n f p) lf2 cn2 fn2 hq hlo hI9 hf hj0 hj1 hj2 hkd2 hj3) rfl hO hq ⟨hA, hRd2⟩ rfl ⟨Nat.le_of_ble_eq_true rfl, Nat.le_of_ble_eq_true rfl⟩ dX8_carryOut_60 (Nat.le_of_ble_eq_true rfl) rfl rfl (fun v60 H5 hp60 hs60 => ?_)
              clear hj0 hj1 hj2 hj3
              rw [eK] at hp60
              obtain ⟨rfl, hA1, hRd3, hfo⟩ := hp60
              have hPa1 := hPa.fr hfo (by omega)
              have hF3 := hF2.trans (Fx.of hfo (by omega))
              have hI8 : PInv (obP n f p g9).2 := hok.1
              have hr8 : -6 ≤ (obP n f p g9).1 ∧ (obP n f p g9).1 ≤ 100 := hok.2
              clear hA hPa hRd2 hF2 hok eK hO hPg hMg hSc hPd hRd hHs hSl
              have hA := hA1
              have hPa := hPa1
              have hRd2 := hRd3
              have hF2 := hF3
              clear hA1 hPa1 hRd3 hF3
              obtain ⟨hO, hPg, hMg, hSc, hPd, hRd, hHs, hSl⟩ := id hA
              refine g_if_lt (pc := 63) X 86 dX8_carryOut_63 (by decide) (by omega) (fun c63 => ?_) (fun c63 => ?_)
              · skip
                have hE := caL_stop (k := 80 - (k + 1)) (d := d) hk c63
                rw [show 80 - (k + 1) + 1 = 80 - k by omega, ← hw] at hE
                refine g_aload_n (pc := 86) (pl := 0) X dX8_carryOut_86 rfl ?_
                refine g_getf (pc := 87) X zF_X8_carryOut_35 hO rfl dX8_carryOut_87 ?_
                obtain ⟨hRO, -⟩ := id hPd
                refine gVv (pc := 90) (n2 := 121) (k2 := 4272) X cs_X8_carryOut_218 (c_X6_clear (zl K) D base (x + 132) 80 n f (by omega)) rfl hRO (by omega) hPd rfl ⟨Nat.le_of_ble_eq_true rfl, Nat.le_of_ble_eq_true rfl⟩ dX8_carryOut_90 (Nat.le_of_ble_eq_true rfl) rfl rfl (fun H6 hp90 hs90 => ?_)
                obtain ⟨hPn, hfq9⟩ := hp90
                have hA1 := hA.pad hfq9 hPn hlo
                have hPa1 := hPa.fr hfq9 (by omega)
                have hF9 := hF2.trans (Fx.of hfq9 (by omega))
                clear hA hPa hRO hO hPg hMg hSc hPd hRd hHs hSl
                have hA := hA1
                have hPa := hPa1
                clear hA1 hPa1
                obtain ⟨hO, hPg, hMg, hSc, hPd, hRd, hHs, hSl⟩ := id hA
                refine g_aload_n (pc := 93) (pl := 0) X dX8_carryOut_93 rfl ?_
                refine g_getf (pc := 94) X zF_X8_carryOut_49 hO rfl dX8_carryOut_94 ?_
                refine g_iload_n (pc := 97) (pl := 1) X dX8_carryOut_97 rfl ?_
                obtain ⟨hHO, -⟩ := id hHs
                refine gVi (pc := 98) (n2 := 121) (k2 := 4272) X cs_X8_carryOut_65 (c_X0_confirm (zl K) D base (x + 137) lo m d sa1 st a1 g (by omega) (by have := hd; omega) (by omega) hsa) rfl hHO (by omega) ⟨hHs, hPa⟩ rfl ⟨Nat.le_of_ble_eq_true rfl, Nat.le_of_ble_eq_true rfl⟩ dX8_carryOut_98 (Nat.le_of_ble_eq_true rfl) rfl rfl (fun v98 H7 hp98 hs98 => ?_)
                obtain ⟨sa2, hA2, hF3⟩ := hA.conf hlo hp98
                obtain ⟨rfl, -⟩ := hp98
                refine g_iret (pc := 101) X R hH dX8_carryOut_101 ?_
                have eR : cyR n f g = d := (if_neg (fun z => z hfl)).trans (by rw [hE])
                have eG : cyG n f g = (obP n f p g9).2 := (if_neg (fun z => z hfl)).trans (by rw [hE])
                have eN : cyN n f = 0 := if_neg (fun z => z hfl)
                rw [eR, eG, eN]
                exact ⟨rfl, sa2, hA2, hF9.trans hF3⟩
              · skip
                refine g_iinc (pc := 66) (pl := 1) (x := d) (lv' := [(1, _), (0, _)]) X dX8_carryOut_66 rfl (by decide) rfl ?_
                refine g_aload_n (pc := 69) (pl := 1) X dX8_carryOut_69 rfl ?_
                refine g_getf (pc := 70) X zF_X8_carryOut_42 hO rfl dX8_carryOut_70 ?_
                refine g_aload_n (pc := 73) (pl := 1) X dX8_carryOut_73 rfl ?_
                refine g_getf (pc := 74) X zF_X8_carryOut_35 hO rfl dX8_carryOut_74 ?_
                refine g_bipush (pc := 77) X dX8_carryOut_77 (by decide +kernel) ?_
                obtain ⟨hRdO, -⟩ := id hRd2
                refine gVi (pc := 79) (n2 := 121) (k2 := 4272) X cs_X8_carryOut_235 (c_X3_skip (zl K) D base (x + 134) (x + 132) (ordE n f p) (itm n f p) lf2 cn2 n fn2 f 59 (by omega) (by omega) (by omega) (by omega) hf (by omega)) rfl hRdO (by omega) ⟨hRd2, hPd⟩ rfl ⟨Nat.le_of_ble_eq_true rfl, Nat.le_of_ble_eq_true rfl⟩ dX8_carryOut_79 (Nat.le_of_ble_eq_true rfl) rfl rfl (fun v79 H6 hp79 hs79 => ?_)
                rcases hp79 with ⟨hc, rfl, hRd3, hPd3, hfs⟩ | ⟨hc, rfl, rfl⟩
                · skip
                  have hin := itm_in (n := n) (f := f) (p := ordE n f p) (by omega)
                  have eN : nxP n f p = ordE n f p + 1 := if_pos hc
                  have hA1 := hA.read hfs ⟨_, _, _, _, _, hRd3⟩ hlo
                  have hPa1 := hPa.fr hfs (by omega)
                  have hF3 := hF2.trans (Fx.of hfs (by omega))
                  refine g_pop (pc := 82) X dX8_carryOut_82 rfl ?_
                  refine g_goto (pc := 83) X 39 dX8_carryOut_83 (by decide) ?_
                  refine G.pick [1, 0] (lv' := [(0, _), (1, _)]) rfl ?_
                  have e9 := caL_go (k := 80 - (k + 1)) (d := d) hk c63
                  rw [show 80 - (k + 1) + 1 = 80 - k by omega, eN] at e9
                  exact ih39 (k + 1) (d + 1) _ _ _ _ _ _ H6 (by omega) (by omega) (by omega) (hw.trans e9) hI8 hA1 hRd3 hPa1 hF3
                · skip
                  have eN : nxP n f p = ordE n f p := if_neg hc
                  have hRd3 := hRd2
                  have hA1 := hA
                  have hPa1 := hPa
                  have hF3 := hF2
                  refine g_pop (pc := 82) X dX8_carryOut_82 rfl ?_
                  refine g_goto (pc := 83) X 39 dX8_carryOut_83 (by decide) ?_
                  refine G.pick [1, 0] (lv' := [(0, _), (1, _)]) rfl ?_
                  have e9 := caL_go (k := 80 - (k + 1)) (d := d) hk c63
                  rw [show 80 - (k + 1) + 1 = 80 - k by omega, eN] at e9
                  exact ih39 (k + 1) (d + 1) _ _ _ _ _ _ H5 (by omega) (by omega) (by omega) (hw.trans e9) hI8 hA1 hRd3 hPa1 hF3
          · skip
            have hob := ordE_bd (n := n) (f := f) (p := p) (by omega) (by omega)
            have hA1 := hA.read hfr ⟨_, _, _, _, _, hRd2⟩ hlo
            have hPa1 := hPa.fr hfr (by omega)
            have hF2 := hFz.trans (Fx.of hfr (by omega))
            clear hA hPa hRdO hO hPg hMg hSc hPd hRd hHs hSl
            have hA := hA1
            have hPa := hPa1
            clear hA1 hPa1
            obtain ⟨hO, hPg, hMg, hSc, hPd, hRd, hHs, hSl⟩ := id hA
            have hE := caL_no (k := 80 - (k + 1)) (d := d) (g := g9) hk
            rw [show 80 - (k + 1) + 1 = 80 - k by omega, ← hw] at hE
            refine g_if_eq (pc := 56) X 86 dX8_carryOut_56 (by decide) (by omega) (fun c56 => ?_) (fun c56 => ?_)
            · skip
              refine g_aload_n (pc := 86) (pl := 0) X dX8_carryOut_86 rfl ?_
              refine g_getf (pc := 87) X zF_X8_carryOut_35 hO rfl dX8_carryOut_87 ?_
              obtain ⟨hRO, -⟩ := id hPd
              refine gVv (pc := 90) (n2 := 121) (k2 := 4272) X cs_X8_carryOut_218 (c_X6_clear (zl K) D base (x + 132) 80 n f (by omega)) rfl hRO (by omega) hPd rfl ⟨Nat.le_of_ble_eq_true rfl, Nat.le_of_ble_eq_true rfl⟩ dX8_carryOut_90 (Nat.le_of_ble_eq_true rfl) rfl rfl (fun H5 hp90 hs90 => ?_)
              obtain ⟨hPn, hfq9⟩ := hp90
              have hA1 := hA.pad hfq9 hPn hlo
              have hPa1 := hPa.fr hfq9 (by omega)
              have hF9 := hF2.trans (Fx.of hfq9 (by omega))
              clear hA hPa hRO hO hPg hMg hSc hPd hRd hHs hSl
              have hA := hA1
              have hPa := hPa1
              clear hA1 hPa1
              obtain ⟨hO, hPg, hMg, hSc, hPd, hRd, hHs, hSl⟩ := id hA
              refine g_aload_n (pc := 93) (pl := 0) X dX8_carryOut_93 rfl ?_
              refine g_getf (pc := 94) X zF_X8_carryOut_49 hO rfl dX8_carryOut_94 ?_
              refine g_iload_n (pc := 97) (pl := 1) X dX8_carryOut_97 rfl ?_
              obtain ⟨hHO, -⟩ := id hHs
              refine gVi (pc := 98) (n2 := 121) (k2 := 4272) X cs_X8_carryOut_65 (c_X0_confirm (zl K) D base (x + 137) lo m d sa1 st a1 g (by omega) (by have := hd; omega) (by omega) hsa) rfl hHO (by omega) ⟨hHs, hPa⟩ rfl ⟨Nat.le_of_ble_eq_true rfl, Nat.le_of_ble_eq_true rfl⟩ dX8_carryOut_98 (Nat.le_of_ble_eq_true rfl) rfl rfl (fun v98 H6 hp98 hs98 => ?_)
              obtain ⟨sa2, hA2, hF3⟩ := hA.conf hlo hp98
              obtain ⟨rfl, -⟩ := hp98
              refine g_iret (pc := 101) X R hH dX8_carryOut_101 ?_
              have eR : cyR n f g = d := (if_neg (fun z => z hfl)).trans (by rw [hE])
              have eG : cyG n f g = g9 := (if_neg (fun z => z hfl)).trans (by rw [hE])
              have eN : cyN n f = 0 := if_neg (fun z => z hfl)
              rw [eR, eG, eN]
              exact ⟨rfl, sa2, hA2, hF9.trans hF3⟩
            · skip
              exact absurd (by decide) c56
    refine G.pick [1, 0] (lv' := [(0, _), (1, _)]) rfl ?_
    exact hL39 _ 0 0 0 _ _ _ _ g H3 (Nat.lt_succ_self _) (by omega) (by omega) rfl hI hA1 hRd1 hPa1 hF2
  · skip
    have hfl : ¬ flt n f 80 0 = -6 := c13
    refine g_bipush (pc := 16) X dX8_carryOut_16 (by decide +kernel) ?_
    refine G.widen (n' := 121) (k' := 4272) (by omega) (by omega) ?_
    refine g_iret (pc := 18) X R hH dX8_carryOut_18 ?_
    have eR : cyR n f g = -3 := if_pos hfl
    have eG : cyG n f g = g := if_pos hfl
    have eN : cyN n f = n := if_pos hfl
    rw [eR, eG, eN]
    exact ⟨rfl, sa, hA, hFr⟩

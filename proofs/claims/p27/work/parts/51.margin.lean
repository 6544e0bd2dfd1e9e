/-! the law's method that looks at the margin -/
def pL (g : Int → Int) (i : Int) : Int := (prS g (g 4)).2.1 i
def pE (g : Int → Int) (i : Int) : Int := (prS g (g 4)).2.2 i
section
variable {g : Int → Int}
theorem pi_0 {k : Int} (h : isN g k) : piR g k 0 = pL g k := (if_neg (fun z => z h)).trans ((if_neg (fun z => z (Or.inl rfl))).trans (if_pos rfl))
theorem pi_1 {k : Int} (h : isN g k) : piR g k 1 = pE g k := (if_neg (fun z => z h)).trans ((if_neg (fun z => z (Or.inr rfl))).trans (if_neg (by decide)))
theorem mg_bd (hI : PInv g) (i : Int) : (pL g i = -6 ∧ pE g i = -6) ∨ (0 ≤ pL g i ∧ pL g i ≤ 75 ∧ 0 ≤ pE g i ∧ pE g i ≤ 75) := by
  have hn := hI.nums
  rcases pr_bd hI (room := g 4) (by omega) i with q | q
  · exact Or.inl q
  · exact Or.inr ⟨q.1, q.2.1, q.2.2.1, q.2.2.2.1⟩
theorem mg_room (hI : PInv g) {j : Int} (j0 : 0 ≤ j) : cnt (fun i => decide (pL g i = j)) (g 1).toNat ≤ g 4 := pr_room hI (by have := hI.nums; omega) j0
theorem mg_many (hI : PInv g) : cnt (fun i => decide (0 ≤ pL g i)) (g 1).toNat = g 1 - cst g 1 - cst g 2 := pr_many hI
theorem mg_la (hI : PInv g) : laR g (g 4) = sumI (fun i => if 0 < pE g i then pE g i else 0) (g 1).toNat := by
  have e : ldr (prS g (g 4)).2.1 (prS g (g 4)).2.2 = fun i => if 0 < pE g i then pE g i else 0 := by
    funext i
    have hb := mg_bd hI i
    show (if pL g i = -6 then 0 else pE g i) = if 0 < pE g i then pE g i else 0
    split <;> split <;> omega
  unfold laR
  rw [e]
theorem sm_s {G : Int → Int} {e i v : Int} (h : e = sumI G i.toNat) (h0 : 0 ≤ i) (hv : G i = v) : e + v = sumI G (i + 1).toNat := by
  rw [show (i + 1).toNat = i.toNat + 1 by omega]
  show e + v = sumI G i.toNat + G (i.toNat : Int)
  rw [Int.toNat_of_nonneg h0, hv, h]
theorem mg_split {l : Int} (h : 0 ≤ l) : cnt (fun i => decide (0 ≤ pL g i ∧ pL g i < l + 1)) (g 1).toNat = cnt (fun i => decide (0 ≤ pL g i ∧ pL g i < l)) (g 1).toNat + cnt (fun i => decide (pL g i = l)) (g 1).toNat := by
  refine cnt_or (fun i i0 i1 => ?_)
  rw [decide_eq_true_iff, decide_eq_true_iff, decide_eq_true_iff]
  omega
theorem mg_end (hI : PInv g) {l : Int} (h : llR g (g 4) < l) : cnt (fun i => decide (0 ≤ pL g i ∧ pL g i < l)) (g 1).toNat = cnt (fun i => decide (0 ≤ pL g i)) (g 1).toNat := by
  have hn := hI.nums
  refine cnt_congr (fun i i0 i1 => ?_)
  have q : pL g i ≤ llR g (g 4) := ll_ge hI (by omega) i0 (by omega)
  rw [decide_eq_decide]
  omega
end
abbrev rm_L_margin : Room := { frames := 6, cells := 1, slots := 16, locals := 134 }
theorem cs_L_margin_9 : zCV RL wsL_margin 9 8 yX8_count wsX8_count cX8_count 2 (some .int) rm_L_margin rm_X8_count 1 := ⟨_, _, gL_margin_X8_count, rfl, ⟨by decide +kernel, by decide +kernel, by decide +kernel⟩, ⟨Nat.le_of_ble_eq_true rfl, Nat.le_of_ble_eq_true rfl⟩, rfl, rfl⟩
theorem cs_L_margin_34 : zCV RL wsL_margin 34 8 yX8_leastRoom wsX8_leastRoom cX8_leastRoom 3 (some .int) rm_L_margin rm_X8_leastRoom 1 := ⟨_, _, gL_margin_X8_leastRoom, rfl, ⟨by decide +kernel, by decide +kernel, by decide +kernel⟩, ⟨Nat.le_of_ble_eq_true rfl, Nat.le_of_ble_eq_true rfl⟩, rfl, rfl⟩
theorem cs_L_margin_25 : zCV RL wsL_margin 25 8 yX8_printed wsX8_printed cX8_printed 3 (some .int) rm_L_margin rm_X8_printed 2 := ⟨_, _, gL_margin_X8_printed, rfl, ⟨by decide +kernel, by decide +kernel, by decide +kernel⟩, ⟨Nat.le_of_ble_eq_true rfl, Nat.le_of_ble_eq_true rfl⟩, rfl, rfl⟩
set_option maxRecDepth 100000 in
set_option maxHeartbeats 4000000 in
theorem c_L_margin (l : Launch) (D : zD) (base : Nat) (x lo : Nat) (m : Int) (sa sl : Int → Option Nat) (st ss : Int → Int → Int) (g : Int → Int) (n : Int) (f : Int → Int) (hq : base ≤ x) (hlo : x + 140 ≤ lo) (hI : PInv g) : Ct l yL_margin wsL_margin rm_L_margin D base [.ref x] (fun H => AnAt D x lo m sa sl st ss g n f H) (PI (fun H v H1 => 1 = v ∧ AnAt D x lo m sa sl st ss g n f H1)) := by
  refine Ct.of (own := RL) (cc := cL_margin) (maxL := 12) (by decide +kernel) rfl (Nat.le_of_ble_eq_true rfl) rfl ?_
  intro K H X R hH hnm hP
  show G K 0 0 H 0 [(0, .ref x)] []
  have hA := hP
  have hO := hA.1
  have hnum := hI.nums
  obtain ⟨y, hy0⟩ : ∃ y : Nat, H.size = y + 0 := ⟨H.size, rfl⟩
  refine g_iconst (pc := 0) X dL_margin_0 ?_
  refine g_istore_n (pc := 1) (lv' := [(1, _), (0, _)]) X dL_margin_1 (by decide) rfl ?_
  refine g_iconst (pc := 2) X dL_margin_2 ?_
  refine g_istore_n (pc := 3) (lv' := [(2, _), (1, _), (0, _)]) X dL_margin_3 (by decide) rfl ?_
  refine g_iconst (pc := 4) X dL_margin_4 ?_
  refine g_istore_n (pc := 5) (lv' := [(3, _), (2, _), (1, _), (0, _)]) X dL_margin_5 (by decide) rfl ?_
  refine g_aload_n (pc := 6) (pl := 3) X dL_margin_6 rfl ?_
  refine g_iconst (pc := 7) X dL_margin_7 ?_
  refine gVi (pc := 8) (n2 := 0) (k2 := 0) X cs_L_margin_9 (c_X8_count (zl K) D base x lo m sa sl st ss g n f 1 hq hlo hI (by omega)) rfl hO (by omega) hA rfl ⟨Nat.le_of_ble_eq_true rfl, Nat.le_of_ble_eq_true rfl⟩ dL_margin_8 (Nat.le_of_ble_eq_true rfl) rfl rfl (fun v8 H1 hp8 hs8 => ?_)
  obtain ⟨hv, hA1, hF1⟩ := hp8
  rw [ct_1] at hv
  subst hv
  have hsz : H1.size = y + 0 := by have e := hF1.1; omega
  replace hA := hA1
  replace hO := hA.1
  clear hA1 hF1 hs8
  refine g_istore (pc := 11) (lv' := [(4, _), (3, _), (2, _), (1, _), (0, _)]) X dL_margin_11 (by decide) rfl ?_
  refine g_bipush (pc := 13) X dL_margin_13 (by decide +kernel) ?_
  obtain ⟨hpb, hy⟩ := hA.pgb
  rw [hsz] at hpb hy
  refine g_newarr (pc := 15) (N := 16) (n2 := 1) (k2 := 16) X (by decide +kernel) rfl (by decide) (Nat.le_of_ble_eq_true rfl) (Nat.le_of_ble_eq_true rfl) dL_margin_15 rfl rfl (fun H2 hz2 hNew hon2 => ?_)
  rw [hsz] at hNew ⊢
  have hM := hNew
  clear hNew
  have hf2 : Fr (Iv 0 0) 1 H1 H2 := Fr.new hz2 hon2
  replace hsz : H2.size = y + 1 := by have e := hf2.1; omega
  replace hO := hO.fr hf2 (by omega)
  replace hA := hA.fr hf2 (by omega)
  refine g_astore (pc := 17) (lv' := [(5, _), (4, _), (3, _), (2, _), (1, _), (0, _)]) X dL_margin_17 (by decide) rfl ?_
  refine g_iconst (pc := 19) X dL_margin_19 ?_
  refine g_istore (pc := 20) (lv' := [(6, _), (5, _), (4, _), (3, _), (2, _), (1, _), (0, _)]) X dL_margin_20 (by decide) rfl ?_
  have hL22 : ∀ (fu : Nat) (i a e : Int) (F : Int → Int) (Hx : Heap), (g 1 - i).toNat < fu → (0 ≤ i ∧ i ≤ g 1) → (a = cnt (fun i => decide (0 ≤ pL g i)) i.toNat) → (e = sumI (fun i => if 0 < pE g i then pE g i else 0) i.toNat) → (∀ j : Int, 0 ≤ j → j < i → F j = pL g j) → (Ia D (y + 0) 16 F Hx) → (AnAt D x lo m sa sl st ss g n f Hx) → G K 1 16 Hx 22 [(0, .ref x), (1, .int (J a)), (2, .int (J e)), (3, .int (J 0)), (4, .int (J (g 1))), (5, .ref (y + 0)), (6, .int (J i))] [] := by
    intro fu
    induction fu with
    | zero => intro i a e F Hx hm; exact absurd hm (Nat.not_lt_zero _)
    | succ fu ih22 =>
      intro i a e F Hx hm h1 ha he hF2 hM hA
      have hO := hA.1
      refine g_iload (pc := 22) (pl := 6) X dL_margin_22 rfl ?_
      refine g_iload (pc := 24) (pl := 4) X dL_margin_24 rfl ?_
      refine g_icmp_ge (pc := 26) X 86 dL_margin_26 (by decide) (by omega) (by omega) (fun c26 => ?_) (fun c26 => ?_)
      · skip
        have e22 : i = g 1 := by omega
        subst e22
        have he1 : e = laR g (g 4) := he.trans (mg_la hI).symm
        have hlb : 0 ≤ laR g (g 4) ∧ laR g (g 4) ≤ 1200 := la_bd hI (by omega) _ (by omega)
        have hll := ll_bd hI (room := g 4) (by omega)
        have hab := cnt_bd (fun i => decide (0 ≤ pL g i)) (g 1).toNat
        rw [← ha] at hab
        clear he
        refine g_iload_n (pc := 86) (pl := 2) X dL_margin_86 rfl ?_
        refine g_aload_n (pc := 87) (pl := 0) X dL_margin_87 rfl ?_
        refine g_bipush (pc := 88) X dL_margin_88 (by decide +kernel) ?_
        refine gVi (pc := 90) (n2 := 1) (k2 := 16) X cs_L_margin_9 (c_X8_count (zl K) D base x lo m sa sl st ss g n f 7 hq hlo hI (by omega)) rfl hO (by omega) hA rfl ⟨Nat.le_of_ble_eq_true rfl, Nat.le_of_ble_eq_true rfl⟩ dL_margin_90 (Nat.le_of_ble_eq_true rfl) rfl rfl (fun v90 H3 hp90 hs90 => ?_)
        obtain ⟨hv, hA1, hF1⟩ := hp90
        rw [ct_7] at hv
        subst hv
        replace hM := hM.fr hF1 (by omega)
        replace hA := hA1
        replace hO := hA.1
        clear hA1 hF1 hs90
        refine g_icmp_ne (pc := 93) X 100 dL_margin_93 (by decide) (by omega) (by omega) (fun c93 => ?_) (fun c93 => ?_)
        · skip
          omega
        · skip
          refine g_iconst (pc := 96) X dL_margin_96 ?_
          refine g_goto (pc := 97) X 101 dL_margin_97 (by decide) ?_
          refine g_istore (pc := 101) (lv' := [(6, _), (0, _), (1, _), (2, _), (3, _), (4, _), (5, _)]) X dL_margin_101 (by decide) rfl ?_
          refine g_aload_n (pc := 103) (pl := 1) X dL_margin_103 rfl ?_
          refine g_bipush (pc := 104) X dL_margin_104 (by decide +kernel) ?_
          refine gVi (pc := 106) (n2 := 1) (k2 := 16) X cs_L_margin_9 (c_X8_count (zl K) D base x lo m sa sl st ss g n f 6 hq hlo hI (by omega)) rfl hO (by omega) hA rfl ⟨Nat.le_of_ble_eq_true rfl, Nat.le_of_ble_eq_true rfl⟩ dL_margin_106 (Nat.le_of_ble_eq_true rfl) rfl rfl (fun v106 H4 hp106 hs106 => ?_)
          obtain ⟨hv, hA1, hF1⟩ := hp106
          rw [ct_6] at hv
          subst hv
          replace hM := hM.fr hF1 (by omega)
          replace hA := hA1
          replace hO := hA.1
          clear hA1 hF1 hs106
          refine g_istore (pc := 109) (lv' := [(7, _), (6, _), (0, _), (1, _), (2, _), (3, _), (4, _), (5, _)]) X dL_margin_109 (by decide) rfl ?_
          refine g_aload_n (pc := 111) (pl := 2) X dL_margin_111 rfl ?_
          refine g_bipush (pc := 112) X dL_margin_112 (by decide +kernel) ?_
          refine gVi (pc := 114) (n2 := 1) (k2 := 16) X cs_L_margin_9 (c_X8_count (zl K) D base x lo m sa sl st ss g n f 10 hq hlo hI (by omega)) rfl hO (by omega) hA rfl ⟨Nat.le_of_ble_eq_true rfl, Nat.le_of_ble_eq_true rfl⟩ dL_margin_114 (Nat.le_of_ble_eq_true rfl) rfl rfl (fun v114 H5 hp114 hs114 => ?_)
          obtain ⟨hv, hA1, hF1⟩ := hp114
          rw [ct_10] at hv
          subst hv
          replace hM := hM.fr hF1 (by omega)
          replace hA := hA1
          replace hO := hA.1
          clear hA1 hF1 hs114
          refine g_istore (pc := 117) (lv' := [(8, _), (7, _), (6, _), (0, _), (1, _), (2, _), (3, _), (4, _), (5, _)]) X dL_margin_117 (by decide) rfl ?_
          refine g_iconst (pc := 119) X dL_margin_119 ?_
          refine g_istore (pc := 120) (lv' := [(9, _), (8, _), (7, _), (6, _), (0, _), (1, _), (2, _), (3, _), (4, _), (5, _)]) X dL_margin_120 (by decide) rfl ?_
          have hL122 : ∀ (fu : Nat) (l u : Int) (Hy : Heap), (76 - l).toNat < fu → (0 ≤ l ∧ l ≤ 76) → (u = cnt (fun i => decide (0 ≤ pL g i ∧ pL g i < l)) (g 1).toNat) → (Ia D (y + 0) 16 F Hy) → (AnAt D x lo m sa sl st ss g n f Hy) → G K 1 16 Hy 122 [(0, .ref x), (1, .int (J a)), (2, .int (J e)), (3, .int (J u)), (4, .int (J (g 1))), (5, .ref (y + 0)), (6, .int (J 1)), (7, .int (J (llR g (g 4)))), (8, .int (J (g 4))), (9, .int (J l))] [] := by
            intro fu
            induction fu with
            | zero => intro l u Hy hm; exact absurd hm (Nat.not_lt_zero _)
            | succ fu ih122 =>
              intro l u Hy hm h2 hu hM hA
              have hO := hA.1
              have hub := cnt_bd (fun i => decide (0 ≤ pL g i ∧ pL g i < l)) (g 1).toNat
              rw [← hu] at hub
              refine g_iload (pc := 122) (pl := 9) X dL_margin_122 rfl ?_
              refine g_iload (pc := 124) (pl := 7) X dL_margin_124 rfl ?_
              refine g_icmp_gt (pc := 126) X 198 dL_margin_126 (by decide) (by omega) (by omega) (fun c126 => ?_) (fun c126 => ?_)
              · skip
                have hua : u = a := hu.trans ((mg_end hI (by omega)).trans ha.symm)
                have hmm := ha.trans (mg_many hI)
                have hc1 : 0 ≤ cst g 1 ∧ cst g 1 ≤ (g 1).toNat := cnt_bd _ _
                have hc2 : 0 ≤ cst g 2 ∧ cst g 2 ≤ (g 1).toNat := cnt_bd _ _
                have hlr := lr_said hI
                refine g_aload_n (pc := 198) (pl := 0) X dL_margin_198 rfl ?_
                refine g_iconst (pc := 199) X dL_margin_199 ?_
                refine gVi (pc := 200) (n2 := 1) (k2 := 16) X cs_L_margin_34 (c_X8_leastRoom (zl K) D base x lo m sa sl st ss g n f 0 hq hlo hI (by omega)) rfl hO (by omega) hA rfl ⟨Nat.le_of_ble_eq_true rfl, Nat.le_of_ble_eq_true rfl⟩ dL_margin_200 (Nat.le_of_ble_eq_true rfl) rfl rfl (fun v200 H6 hp200 hs200 => ?_)
                obtain ⟨hv, hA1, hF1⟩ := hp200
                subst hv
                replace hM := hM.fr hF1 (by omega)
                replace hA := hA1
                replace hO := hA.1
                clear hA1 hF1 hs200
                refine g_istore (pc := 203) (lv' := [(9, _), (0, _), (1, _), (2, _), (3, _), (4, _), (5, _), (6, _), (7, _), (8, _)]) X dL_margin_203 (by decide) rfl ?_
                refine g_iload (pc := 205) (pl := 7) X dL_margin_205 rfl ?_
                refine g_if_eq (pc := 207) X 268 dL_margin_207 (by decide) (by omega) (fun c207 => ?_) (fun c207 => ?_)
                · skip
                  exact absurd c207 (by decide)
                · skip
                  refine g_iload_n (pc := 210) (pl := 4) X dL_margin_210 rfl ?_
                  refine g_iload_n (pc := 211) (pl := 2) X dL_margin_211 rfl ?_
                  refine g_icmp_ne (pc := 212) X 268 dL_margin_212 (by decide) (by omega) (by omega) (fun c212 => ?_) (fun c212 => ?_)
                  · skip
                    omega
                  · skip
                    refine g_iload_n (pc := 215) (pl := 2) X dL_margin_215 rfl ?_
                    refine g_iload (pc := 216) (pl := 5) X dL_margin_216 rfl ?_
                    refine g_aload_n (pc := 218) (pl := 1) X dL_margin_218 rfl ?_
                    refine g_iconst (pc := 219) X dL_margin_219 ?_
                    refine gVi (pc := 220) (n2 := 1) (k2 := 16) X cs_L_margin_9 (c_X8_count (zl K) D base x lo m sa sl st ss g n f 2 hq hlo hI (by omega)) rfl hO (by omega) hA rfl ⟨Nat.le_of_ble_eq_true rfl, Nat.le_of_ble_eq_true rfl⟩ dL_margin_220 (Nat.le_of_ble_eq_true rfl) rfl rfl (fun v220 H7 hp220 hs220 => ?_)
                    obtain ⟨hv, hA1, hF1⟩ := hp220
                    rw [ct_2] at hv
                    subst hv
                    replace hM := hM.fr hF1 (by omega)
                    replace hA := hA1
                    replace hO := hA.1
                    clear hA1 hF1 hs220
                    refine g_isub (pc := 223) X dL_margin_223 ?_
                    refine g_aload_n (pc := 224) (pl := 1) X dL_margin_224 rfl ?_
                    refine g_iconst (pc := 225) X dL_margin_225 ?_
                    refine gVi (pc := 226) (n2 := 1) (k2 := 16) X cs_L_margin_9 (c_X8_count (zl K) D base x lo m sa sl st ss g n f 3 hq hlo hI (by omega)) rfl hO (by omega) hA rfl ⟨Nat.le_of_ble_eq_true rfl, Nat.le_of_ble_eq_true rfl⟩ dL_margin_226 (Nat.le_of_ble_eq_true rfl) rfl rfl (fun v226 H8 hp226 hs226 => ?_)
                    obtain ⟨hv, hA1, hF1⟩ := hp226
                    rw [ct_3] at hv
                    subst hv
                    replace hM := hM.fr hF1 (by omega)
                    replace hA := hA1
                    replace hO := hA.1
                    clear hA1 hF1 hs226
                    refine g_isub (pc := 229) X dL_margin_229 ?_
                    refine g_icmp_ne (pc := 230) X 268 dL_margin_230 (by decide) (by omega) (by omega) (fun c230 => ?_) (fun c230 => ?_)
                    · skip
                      omega
                    · skip
                      by_cases cl : lrR g 0 = -6
                      · skip
                        clear hlr
                        refine g_iload (pc := 233) (pl := 0) X dL_margin_233 rfl ?_
                        refine g_bipush (pc := 235) X dL_margin_235 (by decide +kernel) ?_
                        refine g_icmp_eq (pc := 237) X 264 dL_margin_237 (by decide) (by omega) (by omega) (fun c237 => ?_) (fun c237 => ?_)
                        · skip
                          refine g_iconst (pc := 264) X dL_margin_264 ?_
                          refine g_goto (pc := 265) X 269 dL_margin_265 (by decide) ?_
                          refine g_zret (pc := 269) X R hH (by first | exact Or.inl rfl | exact Or.inr rfl | omega) dL_margin_269 ?_
                          exact ⟨rfl, hA⟩
                        · skip
                          omega
                      · skip
                        have hl1 : 1 ≤ lrR g 0 ∧ lrR g 0 ≤ 9 ∧ (g 4 < lrR g 0 ↔ 0 < laR g (g 4)) := hlr.resolve_left cl
                        obtain ⟨hl2, hl3, hl4⟩ := hl1
                        clear hlr
                        by_cases cm : g 4 < lrR g 0
                        · skip
                          have hl5 : 0 < laR g (g 4) := hl4.mp cm
                          clear hl4
                          refine g_iload (pc := 233) (pl := 0) X dL_margin_233 rfl ?_
                          refine g_bipush (pc := 235) X dL_margin_235 (by decide +kernel) ?_
                          refine g_icmp_eq (pc := 237) X 264 dL_margin_237 (by decide) (by omega) (by omega) (fun c237 => ?_) (fun c237 => ?_)
                          · skip
                            omega
                          · skip
                            refine g_iload (pc := 240) (pl := 9) X dL_margin_240 rfl ?_
                            refine g_iload (pc := 242) (pl := 0) X dL_margin_242 rfl ?_
                            refine g_icmp_ge (pc := 244) X 251 dL_margin_244 (by decide) (by omega) (by omega) (fun c244 => ?_) (fun c244 => ?_)
                            · skip
                              omega
                            · skip
                              refine g_iconst (pc := 247) X dL_margin_247 ?_
                              refine g_goto (pc := 248) X 252 dL_margin_248 (by decide) ?_
                              refine g_iload_n (pc := 252) (pl := 3) X dL_margin_252 rfl ?_
                              refine g_if_le (pc := 253) X 260 dL_margin_253 (by decide) (by omega) (fun c253 => ?_) (fun c253 => ?_)
                              · skip
                                omega
                              · skip
                                refine g_iconst (pc := 256) X dL_margin_256 ?_
                                refine g_goto (pc := 257) X 261 dL_margin_257 (by decide) ?_
                                refine g_icmp_ne (pc := 261) X 268 dL_margin_261 (by decide) (by omega) (by omega) (fun c261 => ?_) (fun c261 => ?_)
                                · skip
                                  omega
                                · skip
                                  refine g_iconst (pc := 264) X dL_margin_264 ?_
                                  refine g_goto (pc := 265) X 269 dL_margin_265 (by decide) ?_
                                  refine g_zret (pc := 269) X R hH (by first | exact Or.inl rfl | exact Or.inr rfl | omega) dL_margin_269 ?_
                                  exact ⟨rfl, hA⟩
                        · skip
                          have hl5 : ¬ 0 < laR g (g 4) := fun z => cm (hl4.mpr z)
                          clear hl4
                          refine g_iload (pc := 233) (pl := 0) X dL_margin_233 rfl ?_
                          refine g_bipush (pc := 235) X dL_margin_235 (by decide +kernel) ?_
                          refine g_icmp_eq (pc := 237) X 264 dL_margin_237 (by decide) (by omega) (by omega) (fun c237 => ?_) (fun c237 => ?_)
                          · skip
                            omega
                          · skip
                            refine g_iload (pc := 240) (pl := 9) X dL_margin_240 rfl ?_
                            refine g_iload (pc := 242) (pl := 0) X dL_margin_242 rfl ?_
                            refine g_icmp_ge (pc := 244) X 251 dL_margin_244 (by decide) (by omega) (by omega) (fun c244 => ?_) (fun c244 => ?_)
                            · skip
                              refine g_iconst (pc := 251) X dL_margin_251 ?_
                              refine g_iload_n (pc := 252) (pl := 3) X dL_margin_252 rfl ?_
                              refine g_if_le (pc := 253) X 260 dL_margin_253 (by decide) (by omega) (fun c253 => ?_) (fun c253 => ?_)
                              · skip
                                refine g_iconst (pc := 260) X dL_margin_260 ?_
                                refine g_icmp_ne (pc := 261) X 268 dL_margin_261 (by decide) (by omega) (by omega) (fun c261 => ?_) (fun c261 => ?_)
                                · skip
                                  omega
                                · skip
                                  refine g_iconst (pc := 264) X dL_margin_264 ?_
                                  refine g_goto (pc := 265) X 269 dL_margin_265 (by decide) ?_
                                  refine g_zret (pc := 269) X R hH (by first | exact Or.inl rfl | exact Or.inr rfl | omega) dL_margin_269 ?_
                                  exact ⟨rfl, hA⟩
                              · skip
                                omega
                            · skip
                              omega
              · skip
                refine g_iload (pc := 129) (pl := 6) X dL_margin_129 rfl ?_
                refine g_if_eq (pc := 131) X 198 dL_margin_131 (by decide) (by omega) (fun c131 => ?_) (fun c131 => ?_)
                · skip
                  exact absurd c131 (by decide)
                · skip
                  refine g_iconst (pc := 134) X dL_margin_134 ?_
                  refine g_istore (pc := 135) (lv' := [(10, _), (0, _), (1, _), (2, _), (3, _), (4, _), (5, _), (6, _), (7, _), (8, _), (9, _)]) X dL_margin_135 (by decide) rfl ?_
                  refine g_iconst (pc := 137) X dL_margin_137 ?_
                  refine g_istore (pc := 138) (lv' := [(11, _), (10, _), (0, _), (1, _), (2, _), (3, _), (4, _), (5, _), (6, _), (7, _), (8, _), (9, _)]) X dL_margin_138 (by decide) rfl ?_
                  have hL140 : ∀ (fu : Nat) (k w : Int), (g 1 - k).toNat < fu → (0 ≤ k ∧ k ≤ g 1) → (w = cnt (fun i => decide (pL g i = l)) k.toNat) → G K 1 16 Hy 140 [(0, .ref x), (1, .int (J a)), (2, .int (J e)), (3, .int (J u)), (4, .int (J (g 1))), (5, .ref (y + 0)), (6, .int (J 1)), (7, .int (J (llR g (g 4)))), (8, .int (J (g 4))), (9, .int (J l)), (10, .int (J w)), (11, .int (J k))] [] := by
                    intro fu
                    induction fu with
                    | zero => intro k w hm; exact absurd hm (Nat.not_lt_zero _)
                    | succ fu ih140 =>
                      intro k w hm h3 hw
                      refine g_iload (pc := 140) (pl := 11) X dL_margin_140 rfl ?_
                      refine g_iload (pc := 142) (pl := 4) X dL_margin_142 rfl ?_
                      refine g_icmp_ge (pc := 144) X 173 dL_margin_144 (by decide) (by omega) (by omega) (fun c144 => ?_) (fun c144 => ?_)
                      · skip
                        have e140 : k = g 1 := by omega
                        subst e140
                        have hw2 : w ≤ g 4 := by rw [hw]; exact mg_room hI (by omega)
                        have hw3 := (cnt_bd (fun i => decide (pL g i = l)) (g 1).toNat).1
                        rw [← hw] at hw3
                        refine g_iload_n (pc := 173) (pl := 3) X dL_margin_173 rfl ?_
                        refine g_iload (pc := 174) (pl := 10) X dL_margin_174 rfl ?_
                        refine g_iadd (pc := 176) X dL_margin_176 ?_
                        refine g_istore_n (pc := 177) (lv' := [(3, _), (0, _), (1, _), (2, _), (4, _), (5, _), (6, _), (7, _), (8, _), (9, _), (10, _), (11, _)]) X dL_margin_177 (by decide) rfl ?_
                        refine g_iload (pc := 178) (pl := 10) X dL_margin_178 rfl ?_
                        refine g_iload (pc := 180) (pl := 8) X dL_margin_180 rfl ?_
                        refine g_icmp_gt (pc := 182) X 189 dL_margin_182 (by decide) (by omega) (by omega) (fun c182 => ?_) (fun c182 => ?_)
                        · skip
                          omega
                        · skip
                          refine g_iconst (pc := 185) X dL_margin_185 ?_
                          refine g_goto (pc := 186) X 190 dL_margin_186 (by decide) ?_
                          refine g_istore (pc := 190) (lv' := [(6, _), (3, _), (0, _), (1, _), (2, _), (4, _), (5, _), (7, _), (8, _), (9, _), (10, _), (11, _)]) X dL_margin_190 (by decide) rfl ?_
                          refine g_iinc (pc := 192) (pl := 9) (x := l) (lv' := [(9, _), (6, _), (3, _), (0, _), (1, _), (2, _), (4, _), (5, _), (7, _), (8, _), (10, _), (11, _)]) X dL_margin_192 rfl (by decide) rfl ?_
                          refine g_goto (pc := 195) X 122 dL_margin_195 (by decide) ?_
                          refine G.pick [3, 4, 5, 2, 6, 7, 1, 8, 9, 0] (lv' := [(0, _), (1, _), (2, _), (3, _), (4, _), (5, _), (6, _), (7, _), (8, _), (9, _)]) rfl ?_
                          exact ih122 (l + 1) (u + w) Hy (by omega) (by omega) (by rw [hu, hw]; exact (mg_split (by omega)).symm) hM hA
                      · skip
                        refine g_iload (pc := 147) (pl := 10) X dL_margin_147 rfl ?_
                        refine g_aload (pc := 149) (pl := 5) X dL_margin_149 rfl ?_
                        refine g_iload (pc := 151) (pl := 11) X dL_margin_151 rfl ?_
                        refine g_iaload (pc := 153) X hM (by omega) (by omega) (by omega) dL_margin_153 ?_
                        rw [show F k = pL g k from hF2 k (by omega) (by omega)]
                        have hbd := mg_bd hI k
                        refine g_iload (pc := 154) (pl := 9) X dL_margin_154 rfl ?_
                        refine g_icmp_ne (pc := 156) X 163 dL_margin_156 (by decide) (by omega) (by omega) (fun c156 => ?_) (fun c156 => ?_)
                        · skip
                          refine g_iconst (pc := 163) X dL_margin_163 ?_
                          refine g_iadd (pc := 164) X dL_margin_164 ?_
                          refine g_istore (pc := 165) (lv' := [(10, _), (0, _), (1, _), (2, _), (3, _), (4, _), (5, _), (6, _), (7, _), (8, _), (9, _), (11, _)]) X dL_margin_165 (by decide) rfl ?_
                          refine g_iinc (pc := 167) (pl := 11) (x := k) (lv' := [(11, _), (10, _), (0, _), (1, _), (2, _), (3, _), (4, _), (5, _), (6, _), (7, _), (8, _), (9, _)]) X dL_margin_167 rfl (by decide) rfl ?_
                          refine g_goto (pc := 170) X 140 dL_margin_170 (by decide) ?_
                          refine G.pick [2, 3, 4, 5, 6, 7, 8, 9, 10, 11, 1, 0] (lv' := [(0, _), (1, _), (2, _), (3, _), (4, _), (5, _), (6, _), (7, _), (8, _), (9, _), (10, _), (11, _)]) rfl ?_
                          exact ih140 (k + 1) (w + 0) (by omega) (by omega) (cn_no (P := fun i => decide (pL g i = l)) hw (by omega) (by exact fun z => absurd (of_decide_eq_true z) (by omega)))
                        · skip
                          refine g_iconst (pc := 159) X dL_margin_159 ?_
                          refine g_goto (pc := 160) X 164 dL_margin_160 (by decide) ?_
                          refine g_iadd (pc := 164) X dL_margin_164 ?_
                          refine g_istore (pc := 165) (lv' := [(10, _), (0, _), (1, _), (2, _), (3, _), (4, _), (5, _), (6, _), (7, _), (8, _), (9, _), (11, _)]) X dL_margin_165 (by decide) rfl ?_
                          refine g_iinc (pc := 167) (pl := 11) (x := k) (lv' := [(11, _), (10, _), (0, _), (1, _), (2, _), (3, _), (4, _), (5, _), (6, _), (7, _), (8, _), (9, _)]) X dL_margin_167 rfl (by decide) rfl ?_
                          refine g_goto (pc := 170) X 140 dL_margin_170 (by decide) ?_
                          refine G.pick [2, 3, 4, 5, 6, 7, 8, 9, 10, 11, 1, 0] (lv' := [(0, _), (1, _), (2, _), (3, _), (4, _), (5, _), (6, _), (7, _), (8, _), (9, _), (10, _), (11, _)]) rfl ?_
                          exact ih140 (k + 1) (w + 1) (by omega) (by omega) (cn_yes (P := fun i => decide (pL g i = l)) hw (by omega) (by exact decide_eq_true (by omega)))
                  refine G.pick [2, 3, 4, 5, 6, 7, 8, 9, 10, 11, 1, 0] (lv' := [(0, _), (1, _), (2, _), (3, _), (4, _), (5, _), (6, _), (7, _), (8, _), (9, _), (10, _), (11, _)]) rfl ?_
                  exact hL140 _ 0 0 (Nat.lt_succ_self _) (by omega) rfl
          refine G.pick [4, 5, 6, 7, 8, 9, 3, 2, 1, 0] (lv' := [(0, _), (1, _), (2, _), (3, _), (4, _), (5, _), (6, _), (7, _), (8, _), (9, _)]) rfl ?_
          exact hL122 _ 0 0 H5 (Nat.lt_succ_self _) (by omega) (cnt_none (fun i i0 i1 z => by have z2 := of_decide_eq_true z; omega)).symm hM hA
      · skip
        refine g_aload (pc := 29) (pl := 5) X dL_margin_29 rfl ?_
        refine g_iload (pc := 31) (pl := 6) X dL_margin_31 rfl ?_
        refine g_aload_n (pc := 33) (pl := 0) X dL_margin_33 rfl ?_
        refine g_iload (pc := 34) (pl := 6) X dL_margin_34 rfl ?_
        refine g_iconst (pc := 36) X dL_margin_36 ?_
        refine gVi (pc := 37) (n2 := 1) (k2 := 16) X cs_L_margin_25 (c_X8_printed (zl K) D base x lo m sa sl st ss g n f i 0 hq hlo hI (by omega) (by omega)) rfl hO (by omega) hA rfl ⟨Nat.le_of_ble_eq_true rfl, Nat.le_of_ble_eq_true rfl⟩ dL_margin_37 (Nat.le_of_ble_eq_true rfl) rfl rfl (fun v37 H3 hp37 hs37 => ?_)
        obtain ⟨hv, hA1, hF1⟩ := hp37
        rw [pi_0 ⟨by omega, by omega⟩] at hv
        subst hv
        replace hM := hM.fr hF1 (by omega)
        replace hA := hA1
        replace hO := hA.1
        clear hA1 hF1 hs37
        refine g_iastore (pc := 40) X hM (by omega) (by omega) (by omega) (by omega) dL_margin_40 (fun H4 hMn hf4 => ?_)
        replace hO := hO.fr hf4 (by omega)
        replace hM := hMn
        clear hMn
        replace hA := hA.off hf4 hy hpb
        refine g_aload_n (pc := 41) (pl := 0) X dL_margin_41 rfl ?_
        refine g_iload (pc := 42) (pl := 6) X dL_margin_42 rfl ?_
        refine g_iconst (pc := 44) X dL_margin_44 ?_
        refine gVi (pc := 45) (n2 := 1) (k2 := 16) X cs_L_margin_25 (c_X8_printed (zl K) D base x lo m sa sl st ss g n f i 1 hq hlo hI (by omega) (by omega)) rfl hO (by omega) hA rfl ⟨Nat.le_of_ble_eq_true rfl, Nat.le_of_ble_eq_true rfl⟩ dL_margin_45 (Nat.le_of_ble_eq_true rfl) rfl rfl (fun v45 H5 hp45 hs45 => ?_)
        obtain ⟨hv, hA1, hF1⟩ := hp45
        rw [pi_1 ⟨by omega, by omega⟩] at hv
        subst hv
        replace hM := hM.fr hF1 (by omega)
        replace hA := hA1
        replace hO := hA.1
        clear hA1 hF1 hs45
        refine g_istore (pc := 48) (lv' := [(7, _), (0, _), (1, _), (2, _), (3, _), (4, _), (5, _), (6, _)]) X dL_margin_48 (by decide) rfl ?_
        refine g_iload_n (pc := 50) (pl := 2) X dL_margin_50 rfl ?_
        refine g_aload (pc := 51) (pl := 6) X dL_margin_51 rfl ?_
        refine g_iload (pc := 53) (pl := 7) X dL_margin_53 rfl ?_
        refine g_iaload (pc := 55) X hM (by omega) (by omega) (by omega) dL_margin_55 ?_
        rw [show (up F i (pL g i)) i = pL g i from if_pos rfl]
        have hbd := mg_bd hI i
        refine g_if_lt (pc := 56) X 63 dL_margin_56 (by decide) (by omega) (fun c56 => ?_) (fun c56 => ?_)
        · skip
          refine g_iconst (pc := 63) X dL_margin_63 ?_
          refine g_iadd (pc := 64) X dL_margin_64 ?_
          refine g_istore_n (pc := 65) (lv' := [(1, _), (7, _), (0, _), (2, _), (3, _), (4, _), (5, _), (6, _)]) X dL_margin_65 (by decide) rfl ?_
          refine g_iload_n (pc := 66) (pl := 3) X dL_margin_66 rfl ?_
          refine g_iload (pc := 67) (pl := 1) X dL_margin_67 rfl ?_
          refine g_if_le (pc := 69) X 77 dL_margin_69 (by decide) (by omega) (fun c69 => ?_) (fun c69 => ?_)
          · skip
            refine g_iconst (pc := 77) X dL_margin_77 ?_
            refine g_iadd (pc := 78) X dL_margin_78 ?_
            refine g_istore_n (pc := 79) (lv' := [(2, _), (1, _), (7, _), (0, _), (3, _), (4, _), (5, _), (6, _)]) X dL_margin_79 (by decide) rfl ?_
            refine g_iinc (pc := 80) (pl := 7) (x := i) (lv' := [(6, _), (2, _), (1, _), (7, _), (0, _), (3, _), (4, _), (5, _)]) X dL_margin_80 rfl (by decide) rfl ?_
            refine g_goto (pc := 83) X 22 dL_margin_83 (by decide) ?_
            refine G.pick [4, 2, 1, 5, 6, 7, 0] (lv' := [(0, _), (1, _), (2, _), (3, _), (4, _), (5, _), (6, _)]) rfl ?_
            exact ih22 (i + 1) (a + 0) (e + 0) (up F i (pL g i)) H5 (by omega) (by omega) (cn_no (P := fun i => decide (0 ≤ pL g i)) ha (by omega) (by exact fun z => absurd (of_decide_eq_true z) (by omega))) (sm_s he (by omega) (if_neg (by omega))) (fun j j0 j1 => by unfold up; by_cases z : j = i; (rw [if_pos z, z]); (rw [if_neg z]; exact hF2 j j0 (by omega))) hM hA
          · skip
            refine g_iload (pc := 72) (pl := 1) X dL_margin_72 rfl ?_
            refine g_goto (pc := 74) X 78 dL_margin_74 (by decide) ?_
            refine g_iadd (pc := 78) X dL_margin_78 ?_
            refine g_istore_n (pc := 79) (lv' := [(2, _), (1, _), (7, _), (0, _), (3, _), (4, _), (5, _), (6, _)]) X dL_margin_79 (by decide) rfl ?_
            refine g_iinc (pc := 80) (pl := 7) (x := i) (lv' := [(6, _), (2, _), (1, _), (7, _), (0, _), (3, _), (4, _), (5, _)]) X dL_margin_80 rfl (by decide) rfl ?_
            refine g_goto (pc := 83) X 22 dL_margin_83 (by decide) ?_
            refine G.pick [4, 2, 1, 5, 6, 7, 0] (lv' := [(0, _), (1, _), (2, _), (3, _), (4, _), (5, _), (6, _)]) rfl ?_
            exact ih22 (i + 1) (a + 0) (e + (pE g i)) (up F i (pL g i)) H5 (by omega) (by omega) (cn_no (P := fun i => decide (0 ≤ pL g i)) ha (by omega) (by exact fun z => absurd (of_decide_eq_true z) (by omega))) (sm_s he (by omega) (if_pos (by omega))) (fun j j0 j1 => by unfold up; by_cases z : j = i; (rw [if_pos z, z]); (rw [if_neg z]; exact hF2 j j0 (by omega))) hM hA
        · skip
          refine g_iconst (pc := 59) X dL_margin_59 ?_
          refine g_goto (pc := 60) X 64 dL_margin_60 (by decide) ?_
          refine g_iadd (pc := 64) X dL_margin_64 ?_
          refine g_istore_n (pc := 65) (lv' := [(1, _), (7, _), (0, _), (2, _), (3, _), (4, _), (5, _), (6, _)]) X dL_margin_65 (by decide) rfl ?_
          refine g_iload_n (pc := 66) (pl := 3) X dL_margin_66 rfl ?_
          refine g_iload (pc := 67) (pl := 1) X dL_margin_67 rfl ?_
          refine g_if_le (pc := 69) X 77 dL_margin_69 (by decide) (by omega) (fun c69 => ?_) (fun c69 => ?_)
          · skip
            refine g_iconst (pc := 77) X dL_margin_77 ?_
            refine g_iadd (pc := 78) X dL_margin_78 ?_
            refine g_istore_n (pc := 79) (lv' := [(2, _), (1, _), (7, _), (0, _), (3, _), (4, _), (5, _), (6, _)]) X dL_margin_79 (by decide) rfl ?_
            refine g_iinc (pc := 80) (pl := 7) (x := i) (lv' := [(6, _), (2, _), (1, _), (7, _), (0, _), (3, _), (4, _), (5, _)]) X dL_margin_80 rfl (by decide) rfl ?_
            refine g_goto (pc := 83) X 22 dL_margin_83 (by decide) ?_
            refine G.pick [4, 2, 1, 5, 6, 7, 0] (lv' := [(0, _), (1, _), (2, _), (3, _), (4, _), (5, _), (6, _)]) rfl ?_
            exact ih22 (i + 1) (a + 1) (e + 0) (up F i (pL g i)) H5 (by omega) (by omega) (cn_yes (P := fun i => decide (0 ≤ pL g i)) ha (by omega) (by exact decide_eq_true (by omega))) (sm_s he (by omega) (if_neg (by omega))) (fun j j0 j1 => by unfold up; by_cases z : j = i; (rw [if_pos z, z]); (rw [if_neg z]; exact hF2 j j0 (by omega))) hM hA
          · skip
            refine g_iload (pc := 72) (pl := 1) X dL_margin_72 rfl ?_
            refine g_goto (pc := 74) X 78 dL_margin_74 (by decide) ?_
            refine g_iadd (pc := 78) X dL_margin_78 ?_
            refine g_istore_n (pc := 79) (lv' := [(2, _), (1, _), (7, _), (0, _), (3, _), (4, _), (5, _), (6, _)]) X dL_margin_79 (by decide) rfl ?_
            refine g_iinc (pc := 80) (pl := 7) (x := i) (lv' := [(6, _), (2, _), (1, _), (7, _), (0, _), (3, _), (4, _), (5, _)]) X dL_margin_80 rfl (by decide) rfl ?_
            refine g_goto (pc := 83) X 22 dL_margin_83 (by decide) ?_
            refine G.pick [4, 2, 1, 5, 6, 7, 0] (lv' := [(0, _), (1, _), (2, _), (3, _), (4, _), (5, _), (6, _)]) rfl ?_
            exact ih22 (i + 1) (a + 1) (e + (pE g i)) (up F i (pL g i)) H5 (by omega) (by omega) (cn_yes (P := fun i => decide (0 ≤ pL g i)) ha (by omega) (by exact decide_eq_true (by omega))) (sm_s he (by omega) (if_pos (by omega))) (fun j j0 j1 => by unfold up; by_cases z : j = i; (rw [if_pos z, z]); (rw [if_neg z]; exact hF2 j j0 (by omega))) hM hA
  refine G.pick [6, 5, 4, 3, 2, 1, 0] (lv' := [(0, _), (1, _), (2, _), (3, _), (4, _), (5, _), (6, _)]) rfl ?_
  exact hL22 _ 0 0 0 (fun _ => 0) H2 (Nat.lt_succ_self _) (by omega) rfl rfl (fun j j0 j1 => by omega) hM hA

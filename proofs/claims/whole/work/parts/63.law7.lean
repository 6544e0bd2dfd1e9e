theorem cs_L_law_9 : zCI RL wsL_law 9 yX8_init wsX8_init cX8_init 1 rm_L_law rm_X8_init 0 := ⟨_, gL_law_X8_init, Or.inl (by decide +kernel), by decide +kernel, by decide +kernel, rfl, rfl, ⟨by decide +kernel, by decide +kernel, by decide +kernel⟩, ⟨Nat.le_of_ble_eq_true rfl, Nat.le_of_ble_eq_true rfl⟩⟩
theorem cs_L_law_12 : zCI RL wsL_law 12 yX9_init wsX9_init cX9_init 1 rm_L_law rm_X9_init 0 := ⟨_, gL_law_X9_init, Or.inl (by decide +kernel), by decide +kernel, by decide +kernel, rfl, rfl, ⟨by decide +kernel, by decide +kernel, by decide +kernel⟩, ⟨Nat.le_of_ble_eq_true rfl, Nat.le_of_ble_eq_true rfl⟩⟩
theorem and31 (v : Int32) : ∃ t : Int, v &&& J 31 = J t ∧ 0 ≤ t ∧ t < 32 := by
  have h1 : (v &&& J 31).toBitVec.toNat = v.toBitVec.toNat &&& 31 := by
    rw [Int32.toBitVec_and, BitVec.toNat_and]; rfl
  have h2 : v.toBitVec.toNat &&& 31 ≤ 31 := Nat.and_le_right
  have h3 : (v &&& J 31).toInt = ((v.toBitVec.toNat &&& 31 : Nat) : Int) := by
    show (v &&& J 31).toBitVec.toInt = _
    rw [BitVec.toInt_eq_toNat_of_lt (by rw [h1]; omega), h1]
  exact ⟨(v &&& J 31).toInt, J_of _, by omega, by omega⟩
theorem PInv.first : PInv g0 := by
  have e0 : g0 0 = 0 := rfl
  have e1 : g0 1 = 0 := rfl
  refine ⟨by decide, by decide, by decide, by decide, by decide, by decide, by decide, by decide, by decide, by decide, fun i a b => ?_, fun i a b => ?_, fun i a b => ?_⟩
  · rw [e0] at b; omega
  · rw [e0] at b; omega
  · rw [e1] at b; omega
theorem AnAt.fr {D : zD} {x lo a b d : Nat} {m : Int} {sa sl : Int → Option Nat} {st ss : Int → Int → Int} {g : Int → Int} {n : Int} {f : Int → Int} {H H1 : Heap} (h : AnAt D x lo m sa sl st ss g n f H) (fr : Fr (Iv a b) d H H1) (e : b ≤ lo ∧ (x + 140 ≤ a ∨ b ≤ x)) : AnAt D x lo m sa sl st ss g n f H1 := by
  obtain ⟨hO, hPg, hMg, hSc, hPd, hRd, hHs, hSl⟩ := h
  exact ⟨hO.fr fr (by omega), hPg.fr fr (by omega), hMg.fr fr (by omega), hSc.fr fr (by omega), hPd.fr fr (by omega), hRd.fr fr (by omega), hHs.fr fr (by omega), hSl.fr fr (by omega)⟩
theorem Wld.first {D : zD} {x : Nat} {H : Heap} (hA : AnAt D x (x + 151) 0 (fun _ => none) (fun _ => none) (fun _ => g0) (fun _ => g0) g0 0 (fun _ => 0) H) (hsz : x + 151 ≤ H.size)
    (hM : MoO D (x + 140) 0 0 0 0 0 0 0 H ∧ NwAt D (x + 140) g0 H ∧ Ia D (x + 140 + 2) 8430 (fun _ => 0) H ∧ Ia D (x + 140 + 3) 2810 (fun _ => 0) H ∧ Ba D (x + 140 + 4) 2 (fun _ => 0) H ∧ Ia D (x + 140 + 5) 80 (fun _ => 0) H ∧ Ia D (x + 140 + 6) 112 (fun _ => 0) H ∧ Ia D (x + 140 + 7) 16 (fun _ => 0) H ∧ Ia D (x + 140 + 8) 16 (fun _ => 0) H ∧ Ia D (x + 140 + 9) 80 (fun _ => 0) H ∧ Ia D (x + 140 + 10) 120 (fun _ => 0) H) : Wld D x 0 0 H := by
  obtain ⟨hO, hNw, hPs, hSl, hHb, hPd, hOr, hLn, hOw, hFu, hTk⟩ := hM
  refine ⟨fun _ => none, fun _ => none, fun _ => g0, fun _ => g0, g0, fun _ => 0, fun _ => 0, hA, ⟨⟨_, _, _, _, _, hO⟩, hNw, ⟨_, hPs, fun i j a b => by omega⟩, ⟨hHb, fun i _ _ => Or.inl rfl, _, hSl, fun i j _ _ h => absurd h (by show ¬ ((0 : Int) = 1); decide)⟩, hPd, ⟨_, hOr⟩, ⟨⟨_, hLn⟩, ⟨_, hOw⟩, ⟨_, hFu⟩⟩, ⟨_, hTk⟩⟩, PInv.first, fun i a b => by omega, fun j _ _ h => absurd h (by show ¬ ((0 : Int) = 1); decide), fun j _ _ => ⟨fun h => absurd h (by show ¬ ((0 : Int) = 1); decide), fun h => absurd rfl h⟩, fun i a b => by omega, hsz⟩
set_option maxRecDepth 100000 in
set_option maxHeartbeats 4000000 in
theorem law_loop {K : zC} {D : zD} {base : Nat} (X : GX K cL_law RL wsL_law D base rm_L_law 4) {b L : Nat} {xs : Nat → Int32} (hX : va_X b L xs (zs K) (zs K).heap) (hbl : b < (zs K).heap.size) (hbb : b < base) (hL : L ≤ 2048) {x : Nat} (hq : base ≤ x) (hend : ∀ (H : Heap) (lv : List (Nat × Value)), G K 600000 7302250 H 803 lv [.int (J 1)]) :
    ∀ (fu c : Nat) (m n : Int) (H : Heap), 513 - c < fu → c ≤ 512 → Wld D x m n H → G K (151 + 121 * c) (17884 + 4272 * c) H 18 [(0, .ref b), (1, .ref x), (2, .ref (x + 140)), (3, .int (J (4 * (c : Int))))] [] := by
  intro fu
  induction fu with
  | zero => intro c m n H hm; exact absurd hm (Nat.not_lt_zero _)
  | succ fu ih =>
    intro c m n H hm hc5 hW
    obtain ⟨i, hc⟩ : ∃ i : Int, 4 * (c : Int) = i := ⟨_, rfl⟩
    rw [hc]
    refine g_iload_n (pc := 18) (pl := 3) X dL_law_18 rfl ?_
    refine g_aload_n (pc := 19) (pl := 0) X dL_law_19 rfl ?_
    refine g_slen (pc := 20) X hX hbl hbb dL_law_20 ?_
    refine g_iconst (pc := 21) X dL_law_21 ?_
    refine g_isub (pc := 22) X dL_law_22 ?_
    refine g_icmp_gt (pc := 23) X 802 dL_law_23 (by decide) (by omega) (by omega) (fun c23 => ?_) (fun c23 => ?_)
    · refine G.widen (n' := 600000) (k' := 7302250) (by omega) (by omega) ?_
      refine g_iconst (pc := 802) X dL_law_802 ?_
      exact hend _ _
    · have hi : 0 ≤ i ∧ i + 4 ≤ (L : Int) := by omega
      have kk : ∀ (m2 n2 : Int) (H2 : Heap), Wld D x m2 n2 H2 → G K (151 + 121 * c + 121) (17884 + 4272 * c + 4272) H2 796 [(0, .ref b), (1, .ref x), (2, .ref (x + 140)), (3, .int (J i))] [] := by
        intro m2 n2 H2 hW2
        refine g_iinc (pc := 796) (pl := 3) (x := i) (lv' := [(3, _), (0, _), (1, _), (2, _)]) X dL_law_796 rfl (by decide) rfl ?_
        refine g_goto (pc := 799) X 18 dL_law_799 (by decide) ?_
        rw [show i + 4 = 4 * ((c + 1 : Nat) : Int) by omega]
        refine G.pick [1, 2, 3, 0] (lv' := [(0, _), (1, _), (2, _), (3, _)]) rfl ?_
        refine G.widen (n' := 151 + 121 * (c + 1)) (k' := 17884 + 4272 * (c + 1)) (by omega) (by omega) ?_
        exact ih (c + 1) m2 n2 H2 (by omega) (by omega) hW2
      refine g_aload_n (pc := 26) (pl := 0) X dL_law_26 rfl ?_
      refine g_iload_n (pc := 27) (pl := 3) X dL_law_27 rfl ?_
      refine g_sld (pc := 28) (i := i) X hX hbl hbb (by omega) dL_law_28 ?_
      refine g_bipush (pc := 29) X dL_law_29 (by decide +kernel) ?_
      obtain ⟨t, ht, ht0, ht1⟩ := and31 (J (sx xs i))
      refine g_iand (pc := 31) (z := J t) X dL_law_31 ht ?_
      by_cases c32 : t < 0 ∨ 23 < t
      · refine g_tableOut (pc := 32) X 796 dL_law_32 (by omega) c32 (by decide) ?_
        refine G.widen (n' := 151 + 121 * c + 121) (k' := 17884 + 4272 * c + 4272) (by omega) (by omega) ?_
        exact kk _ _ _ hW
      have ht2 : t = 0 ∨ t = 1 ∨ t = 2 ∨ t = 3 ∨ t = 4 ∨ t = 5 ∨ t = 6 ∨ t = 7 ∨ t = 8 ∨ t = 9 ∨ t = 10 ∨ t = 11 ∨ t = 12 ∨ t = 13 ∨ t = 14 ∨ t = 15 ∨ t = 16 ∨ t = 17 ∨ t = 18 ∨ t = 19 ∨ t = 20 ∨ t = 21 ∨ t = 22 ∨ t = 23 := by omega
      clear ht ht0 ht1 c32
      rcases ht2 with rfl | rfl | rfl | rfl | rfl | rfl | rfl | rfl | rfl | rfl | rfl | rfl | rfl | rfl | rfl | rfl | rfl | rfl | rfl | rfl | rfl | rfl | rfl | rfl
      · refine g_tableIn (pc := 32) (off := 112) X 144 dL_law_32 (by decide) (by decide) (by decide) (by decide) (by decide) ?_
        exact lc_set X hX hbl hbb hL hq hi hc hW kk
      · refine g_tableIn (pc := 32) (off := 145) X 177 dL_law_32 (by decide) (by decide) (by decide) (by decide) (by decide) ?_
        exact lc_write X hX hbl hbb hL hq hi hc hW kk
      · refine g_tableIn (pc := 32) (off := 178) X 210 dL_law_32 (by decide) (by decide) (by decide) (by decide) (by decide) ?_
        exact lc_erase X hX hbl hbb hL hq hi hc hW kk
      · refine g_tableIn (pc := 32) (off := 211) X 243 dL_law_32 (by decide) (by decide) (by decide) (by decide) (by decide) ?_
        exact lc_move X hX hbl hbb hL hq hi hc hW kk
      · refine g_tableIn (pc := 32) (off := 254) X 286 dL_law_32 (by decide) (by decide) (by decide) (by decide) (by decide) ?_
        exact lc_note X hX hbl hbb hL hq hi hc hW kk
      · refine g_tableIn (pc := 32) (off := 287) X 319 dL_law_32 (by decide) (by decide) (by decide) (by decide) (by decide) ?_
        exact lc_reply X hX hbl hbb hL hq hi hc hW kk
      · refine g_tableIn (pc := 32) (off := 310) X 342 dL_law_32 (by decide) (by decide) (by decide) (by decide) (by decide) ?_
        exact lc_drop X hX hbl hbb hL hq hi hc hW kk
      · refine g_tableIn (pc := 32) (off := 333) X 365 dL_law_32 (by decide) (by decide) (by decide) (by decide) (by decide) ?_
        exact lc_reclaim X hX hbl hbb hL hq hi hc hW kk
      · refine g_tableIn (pc := 32) (off := 356) X 388 dL_law_32 (by decide) (by decide) (by decide) (by decide) (by decide) ?_
        exact lc_letter X hX hbl hbb hL hq hi hc hW kk
      · refine g_tableIn (pc := 32) (off := 379) X 411 dL_law_32 (by decide) (by decide) (by decide) (by decide) (by decide) ?_
        exact lc_of X hX hbl hbb hL hq hi hc hW kk
      · refine g_tableIn (pc := 32) (off := 412) X 444 dL_law_32 (by decide) (by decide) (by decide) (by decide) (by decide) ?_
        exact lc_word X hX hbl hbb hL hq hi hc hW kk
      · refine g_tableIn (pc := 32) (off := 445) X 477 dL_law_32 (by decide) (by decide) (by decide) (by decide) (by decide) ?_
        exact lc_at X hX hbl hbb hL hq hi hc hW kk
      · refine g_tableIn (pc := 32) (off := 468) X 500 dL_law_32 (by decide) (by decide) (by decide) (by decide) (by decide) ?_
        exact lc_printed X hX hbl hbb hL hq hi hc hW kk
      · refine g_tableIn (pc := 32) (off := 501) X 533 dL_law_32 (by decide) (by decide) (by decide) (by decide) (by decide) ?_
        exact lc_count X hX hbl hbb hL hq hi hc hW kk
      · refine g_tableIn (pc := 32) (off := 524) X 556 dL_law_32 (by decide) (by decide) (by decide) (by decide) (by decide) ?_
        exact lc_orphansIf X hX hbl hbb hL hq hi hc hW kk
      · refine g_tableIn (pc := 32) (off := 557) X 589 dL_law_32 (by decide) (by decide) (by decide) (by decide) (by decide) ?_
        exact lc_could X hX hbl hbb hL hq hi hc hW kk
      · refine g_tableIn (pc := 32) (off := 590) X 622 dL_law_32 (by decide) (by decide) (by decide) (by decide) (by decide) ?_
        exact lc_leastRoom X hX hbl hbb hL hq hi hc hW kk
      · refine g_tableIn (pc := 32) (off := 613) X 645 dL_law_32 (by decide) (by decide) (by decide) (by decide) (by decide) ?_
        exact lc_put X hX hbl hbb hL hq hi hc hW kk
      · refine g_tableIn (pc := 32) (off := 666) X 698 dL_law_32 (by decide) (by decide) (by decide) (by decide) (by decide) ?_
        exact lc_wipe X hX hbl hbb hL hq hi hc hW kk
      · refine g_tableIn (pc := 32) (off := 679) X 711 dL_law_32 (by decide) (by decide) (by decide) (by decide) (by decide) ?_
        exact lc_fault X hX hbl hbb hL hq hi hc hW kk
      · refine g_tableIn (pc := 32) (off := 692) X 724 dL_law_32 (by decide) (by decide) (by decide) (by decide) (by decide) ?_
        exact lc_carryOut X hX hbl hbb hL hq hi hc hW kk
      · refine g_tableIn (pc := 32) (off := 705) X 737 dL_law_32 (by decide) (by decide) (by decide) (by decide) (by decide) ?_
        exact lc_undo X hX hbl hbb hL hq hi hc hW kk
      · refine g_tableIn (pc := 32) (off := 718) X 750 dL_law_32 (by decide) (by decide) (by decide) (by decide) (by decide) ?_
        exact lc_save X hX hbl hbb hL hq hi hc hW kk
      · refine g_tableIn (pc := 32) (off := 741) X 773 dL_law_32 (by decide) (by decide) (by decide) (by decide) (by decide) ?_
        exact lc_restore X hX hbl hbb hL hq hi hc hW kk
set_option maxRecDepth 100000 in
set_option maxHeartbeats 4000000 in
theorem law_go {K : zC} {D : zD} {base : Nat} (X : GX K cL_law RL wsL_law D base rm_L_law 4) {b L : Nat} {xs : Nat → Int32} (hX : va_X b L xs (zs K) (zs K).heap) (hbl : b < (zs K).heap.size) (hbb : b < base) (hL : L ≤ 2048) {x : Nat} (hq : base ≤ x) (hend : ∀ (H : Heap) (lv : List (Nat × Value)), G K 600000 7302250 H 803 lv [.int (J 1)]) {H : Heap} (hsz : H.size = x) : G K 0 0 H 0 [(0, .ref b)] [] := by
  refine g_new (pc := 0) (ci := 8) (C := RX8) (T := TX8) (N := 7) (tys := tyX8) (fs := [.null, .null, .null, .null, .null, .null, .null]) (n2 := 1) (k2 := 7) X rfl (by decide +kernel) tyX8_ok (by decide +kernel) (by decide +kernel) (by decide +kernel) (by decide +kernel) (Nat.le_of_ble_eq_true rfl) (Nat.le_of_ble_eq_true rfl) dL_law_0 rfl rfl (fun H1 hz1 hNew hon1 => ?_)
  rw [hsz] at hNew ⊢
  have hf1 : Fr (Iv 0 0) 1 H H1 := Fr.new hz1 hon1
  replace hsz : H1.size = x + 1 := by have e := hf1.1; omega
  refine g_dup (pc := 3) X dL_law_3 rfl ?_
  refine gIv (pc := 4) (n2 := 140) (k2 := 4796) X cs_L_law_9 (c_X8_init (zl K) D base x hq) rfl (by omega) ⟨hNew, hsz⟩ rfl ⟨(Nat.le_of_ble_eq_true rfl), (Nat.le_of_ble_eq_true rfl)⟩ dL_law_4 (Nat.le_of_ble_eq_true rfl) rfl rfl (fun H2 hp4 hs4 => ?_)
  obtain ⟨hAn, hfa⟩ := hp4
  replace hsz : H2.size = x + 140 := by have e := hfa.1; omega
  refine g_astore_n (pc := 7) (lv' := [(1, _), (0, _)]) X dL_law_7 (by decide) rfl ?_
  refine g_new (pc := 8) (ci := 9) (C := RX9) (T := TX9) (N := 17) (tys := tyX9) (fs := [.null, .null, .int (J 0), .null, .null, .null, .int (J 0), .int (J 0), .null, .int (J 0), .int (J 0), .int (J 0), .int (J 0), .null, .null, .null, .null]) (n2 := 141) (k2 := 4813) X rfl (by decide +kernel) tyX9_ok (by decide +kernel) (by decide +kernel) (by decide +kernel) (by decide +kernel) (Nat.le_of_ble_eq_true rfl) (Nat.le_of_ble_eq_true rfl) dL_law_8 rfl rfl (fun H3 hz3 hNew3 hon3 => ?_)
  rw [hsz] at hNew3 ⊢
  have hf3 : Fr (Iv 0 0) 1 H2 H3 := Fr.new hz3 hon3
  replace hsz : H3.size = x + 141 := by have e := hf3.1; omega
  replace hAn := hAn.fr hf3 (by omega)
  refine g_dup (pc := 11) X dL_law_11 rfl ?_
  refine gIv (pc := 12) (n2 := 151) (k2 := 17884) X cs_L_law_12 (c_X9_init (zl K) D base (x + 140) (by omega)) rfl (by omega) ⟨hNew3, hsz⟩ rfl ⟨(Nat.le_of_ble_eq_true rfl), (Nat.le_of_ble_eq_true rfl)⟩ dL_law_12 (Nat.le_of_ble_eq_true rfl) rfl rfl (fun H4 hp12 hs12 => ?_)
  obtain ⟨hO, hNw, hPs, hSl, hHb, hPd, hOr, hLn, hOw, hFu, hTk, hfb⟩ := hp12
  replace hsz : H4.size = x + 151 := by have e := hfb.1; omega
  replace hAn := hAn.fr hfb (by omega)
  refine g_astore_n (pc := 15) (lv' := [(2, _), (1, _), (0, _)]) X dL_law_15 (by decide) rfl ?_
  refine g_iconst (pc := 16) X dL_law_16 ?_
  refine g_istore_n (pc := 17) (lv' := [(3, _), (2, _), (1, _), (0, _)]) X dL_law_17 (by decide) rfl ?_
  refine G.pick [3, 2, 1, 0] (lv' := [(0, _), (1, _), (2, _), (3, _)]) rfl ?_
  exact law_loop X hX hbl hbb hL hq hend 514 0 0 0 H4 (by decide) (by decide) (Wld.first hAn (by omega) ⟨hO, hNw, hPs, hSl, hHb, hPd, hOr, hLn, hOw, hFu, hTk⟩)

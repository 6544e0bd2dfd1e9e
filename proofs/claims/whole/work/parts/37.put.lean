abbrev rm_X8_countCharacters : Room := { frames := 0, cells := 0, slots := 0, locals := 0 }
set_option maxRecDepth 100000 in
theorem c_X8_countCharacters (l : Launch) (D : zD) (base : Nat) (u : Nat)  (hu : u < 18446744073709551616) : Ct l yX8_countCharacters wsX8_countCharacters rm_X8_countCharacters D base [.long (lg u)] (fun _ => True) (PI (fun H v H1 => H = H1 ∧ ccS u 8 0 = v)) := by
  refine Ct.of (own := RX8) (cc := cX8_countCharacters) (maxL := 6) (by decide +kernel) rfl (Nat.le_of_ble_eq_true rfl) rfl ?_
  intro K H X R hH hnm hP
  show G K 0 0 H 0 [(0, .long (lg u))] []
  refine g_iconst (pc := 0) X dX8_countCharacters_0 ?_
  refine g_istore_n (pc := 1) (lv' := [(2, _), (0, _)]) X dX8_countCharacters_1 (by decide) rfl ?_
  refine g_lload_n (pc := 2) (pl := 1) X dX8_countCharacters_2 rfl ?_
  refine g_lstore_n (pc := 3) (lv' := [(3, _), (2, _), (0, _)]) X dX8_countCharacters_3 (by decide) rfl ?_
  have hL4 : ∀ (fu : Nat) (s : Nat) (si : Int) (r : Int64), 9 - s < fu → (si = (s : Int)) → (r = lg (u / 256 ^ s)) → (s ≤ 8) → (ccS u 8 0 = ccS u (8 - s) s) → G K 0 0 H 4 [(0, .long (lg u)), (2, .int (J si)), (3, .long r)] [] := by
    intro fu
    induction fu with
    | zero => intro s si r hm; exact absurd hm (Nat.not_lt_zero _)
    | succ fu ih4 =>
      intro s si r hm he hr h1 hc
      subst he
      subst hr
      refine g_lload_n (pc := 4) (pl := 2) X dX8_countCharacters_4 rfl ?_
      refine g_lconst (pc := 5) (v := Int64.ofNat ((0 : Fin 2) : Nat)) X dX8_countCharacters_5 rfl ?_
      have hw : u / 256 ^ s < 18446744073709551616 := Nat.lt_of_le_of_lt (Nat.div_le_self _ _) hu
      refine g_lcmp (pc := 6) (v := J (if u / 256 ^ s = 0 then 0 else if lg (u / 256 ^ s) > 0 then 1 else -1)) X dX8_countCharacters_6 (lg_zero hw) ?_
      refine g_if_eq (pc := 7) X 51 dX8_countCharacters_7 (by decide) (by (repeat' split) <;> exact ⟨by decide, by decide⟩) (fun c7 => ?_) (fun c7 => ?_)
      · skip
        have hz : u / 256 ^ s = 0 := by (split at c7); (assumption); (split at c7 <;> omega)
        refine g_iload_n (pc := 51) (pl := 1) X dX8_countCharacters_51 rfl ?_
        refine g_iret (pc := 52) X R hH dX8_countCharacters_52 ?_
        refine ⟨rfl, hc.trans ?_⟩
        by_cases z : s = 8
        · rw [z]; rfl
        · first
          | exact absurd (show s = 8 by omega) z
          | (have e9 : ccS u (8 - (s + 1) + 1) s = s := if_pos hz; rw [show 8 - (s + 1) + 1 = 8 - s by omega] at e9; exact e9)
      · skip
        have hz : ¬ u / 256 ^ s = 0 := fun z => by rw [if_pos z] at c7; exact c7 rfl
        refine g_iload_n (pc := 10) (pl := 1) X dX8_countCharacters_10 rfl ?_
        refine g_bipush (pc := 11) X dX8_countCharacters_11 (by decide +kernel) ?_
        refine g_icmp_ge (pc := 13) X 51 dX8_countCharacters_13 (by decide) (by omega) (by omega) (fun c13 => ?_) (fun c13 => ?_)
        · skip
          refine g_iload_n (pc := 51) (pl := 1) X dX8_countCharacters_51 rfl ?_
          refine g_iret (pc := 52) X R hH dX8_countCharacters_52 ?_
          refine ⟨rfl, hc.trans ?_⟩
          by_cases z : s = 8
          · rw [z]; rfl
          · first
            | exact absurd (show s = 8 by omega) z
            | (have e9 : ccS u (8 - (s + 1) + 1) s = s := if_pos hz; rw [show 8 - (s + 1) + 1 = 8 - s by omega] at e9; exact e9)
        · skip
          refine g_lload_n (pc := 16) (pl := 2) X dX8_countCharacters_16 rfl ?_
          refine g_ldc2 (pc := 17) (v := 255) X (by decide +kernel) dX8_countCharacters_17 ?_
          refine g_land (pc := 20) (z := lg (u / 256 ^ s) &&& 255) X dX8_countCharacters_20 rfl ?_
          refine g_l2i (pc := 21) (v := J ((u / 256 ^ s % 256 : Nat) : Int)) X dX8_countCharacters_21 (lg_byte hw) ?_
          refine g_istore (pc := 22) (lv' := [(5, _), (0, _), (2, _), (3, _)]) X dX8_countCharacters_22 (by decide) rfl ?_
          refine g_iload (pc := 24) (pl := 0) X dX8_countCharacters_24 rfl ?_
          refine g_bipush (pc := 26) X dX8_countCharacters_26 (by decide +kernel) ?_
          refine g_icmp_lt (pc := 28) X 38 dX8_countCharacters_28 (by decide) (by omega) (by omega) (fun c28 => ?_) (fun c28 => ?_)
          · skip
            refine g_iconst (pc := 38) X dX8_countCharacters_38 ?_
            refine g_iret (pc := 39) X R hH dX8_countCharacters_39 ?_
            have e9 : ccS u (8 - (s + 1) + 1) s = 0 := (if_neg hz).trans (if_pos (by omega))
            rw [show 8 - (s + 1) + 1 = 8 - s by omega] at e9
            exact ⟨rfl, hc.trans e9⟩
          · skip
            refine g_iload (pc := 31) (pl := 0) X dX8_countCharacters_31 rfl ?_
            refine g_bipush (pc := 33) X dX8_countCharacters_33 (by decide +kernel) ?_
            refine g_icmp_le (pc := 35) X 40 dX8_countCharacters_35 (by decide) (by omega) (by omega) (fun c35 => ?_) (fun c35 => ?_)
            · skip
              refine g_lload_n (pc := 40) (pl := 3) X dX8_countCharacters_40 rfl ?_
              refine g_bipush (pc := 41) X dX8_countCharacters_41 (by decide +kernel) ?_
              have h256 : u / 256 ^ s / 256 = u / 256 ^ (s + 1) := by rw [Nat.div_div_eq_div_mul, Nat.pow_succ]
              refine g_lushr (pc := 43) (v := lg (u / 256 ^ (s + 1))) X dX8_countCharacters_43 (by rw [← h256]; have := lg_sh8 (b := 1) hw (by omega); rw [Nat.pow_one] at this; exact this) ?_
              refine g_lstore_n (pc := 44) (lv' := [(3, _), (5, _), (0, _), (2, _)]) X dX8_countCharacters_44 (by decide) rfl ?_
              refine g_iinc (pc := 45) (pl := 3) (x := (s : Int)) (lv' := [(2, _), (3, _), (5, _), (0, _)]) X dX8_countCharacters_45 rfl (by decide) rfl ?_
              refine g_goto (pc := 48) X 4 dX8_countCharacters_48 (by decide) ?_
              refine G.pick [3, 0, 1] (lv' := [(0, _), (2, _), (3, _)]) rfl ?_
              have e9 : ccS u (8 - (s + 1) + 1) s = ccS u (8 - (s + 1)) (s + 1) := (if_neg hz).trans (if_neg (by omega))
              rw [show 8 - (s + 1) + 1 = 8 - s by omega] at e9
              exact ih4 (s + 1) _ _ (by omega) (by omega) rfl (by omega) (hc.trans e9)
            · skip
              refine g_iconst (pc := 38) X dX8_countCharacters_38 ?_
              refine g_iret (pc := 39) X R hH dX8_countCharacters_39 ?_
              have e9 : ccS u (8 - (s + 1) + 1) s = 0 := (if_neg hz).trans (if_pos (by omega))
              rw [show 8 - (s + 1) + 1 = 8 - s by omega] at e9
              exact ⟨rfl, hc.trans e9⟩
  refine G.pick [2, 1, 0] (lv' := [(0, _), (2, _), (3, _)]) rfl ?_
  exact hL4 _ 0 _ _ (Nat.lt_succ_self _) rfl (by rw [Nat.pow_zero, Nat.div_one]) (by omega) rfl

abbrev rm_X8_put : Room := { frames := 1, cells := 0, slots := 0, locals := 25 }
theorem cs_X8_put_209 : zCJ RX8 wsX8_put 209 yX8_countCharacters wsX8_countCharacters cX8_countCharacters 6 (some .int) rm_X8_put rm_X8_countCharacters 1 := ⟨_, gX8_put_X8_countCharacters, rfl, ⟨by decide +kernel, by decide +kernel, by decide +kernel⟩, ⟨Nat.le_of_ble_eq_true rfl, Nat.le_of_ble_eq_true rfl⟩⟩
theorem zF_X8_put_35 : zF RX8 wsX8_put 8 3 35 := ⟨RX8, TX8, 7, rfl, by decide +kernel, by decide, by decide +kernel⟩
theorem zF_X8_put_130 : zF RX8 wsX8_put 6 1 130 := ⟨RX6, TX6, 2, rfl, by decide +kernel, by decide, by decide +kernel⟩
theorem cs_X8_put_215 : zCV RX8 wsX8_put 215 6 yX6_add wsX6_add cX6_add 2 none rm_X8_put rm_X6_add 1 := ⟨_, _, gX8_put_X6_add, rfl, ⟨by decide +kernel, by decide +kernel, by decide +kernel⟩, ⟨Nat.le_of_ble_eq_true rfl, Nat.le_of_ble_eq_true rfl⟩, rfl, rfl⟩
set_option maxRecDepth 100000 in
theorem c_X8_put (l : Launch) (D : zD) (base : Nat) (x lo : Nat) (m : Int) (sa sl : Int → Option Nat) (st ss : Int → Int → Int) (g : Int → Int) (n : Int) (f : Int → Int) (u : Nat) (hq : base ≤ x) (hlo : x + 151 ≤ lo) (hI : PInv g) (hu : u < 18446744073709551616) : Ct l yX8_put wsX8_put rm_X8_put D base [.ref x, .long (lg u)] (fun H => AnAt D x lo m sa sl st ss g n f H) (PI (fun H v H1 => ptR u n = v ∧ AnAt D x lo m sa sl st ss g (ptN u n) (ptF u (ccS u 8 0) n f) H1 ∧ Fx x lo H H1)) := by
  refine Ct.of (own := RX8) (cc := cX8_put) (maxL := 5) (by decide +kernel) rfl (Nat.le_of_ble_eq_true rfl) rfl ?_
  intro K H X R hH hnm hP
  show G K 0 0 H 0 [(0, .ref x), (1, .long (lg u))] []
  have hA := hP
  obtain ⟨hO, hPg, hMg, hSc, hPd, hRd, hHs, hSl⟩ := id hA
  have hPd0 := hPd.bd
  have hcb := ccS_bd u 8 0
  refine g_lload_n (pc := 0) (pl := 1) X dX8_put_0 rfl ?_
  refine gJi (pc := 1) (n2 := 0) (k2 := 0) X cs_X8_put_209 (c_X8_countCharacters (zl K) D base u hu) rfl (by have := hO.lt; omega) trivial rfl ⟨Nat.le_of_ble_eq_true rfl, Nat.le_of_ble_eq_true rfl⟩ dX8_put_1 (Nat.le_of_ble_eq_true rfl) rfl rfl (fun v1 H1 hp1 hs1 => ?_)
  obtain ⟨rfl, rfl⟩ := hp1
  refine g_istore_n (pc := 4) (lv' := [(3, _), (0, _), (1, _)]) X dX8_put_4 (by decide) rfl ?_
  refine g_iload_n (pc := 5) (pl := 0) X dX8_put_5 rfl ?_
  refine g_if_ne (pc := 6) X 12 dX8_put_6 (by decide) (by omega) (fun c6 => ?_) (fun c6 => ?_)
  · skip
    refine g_aload_n (pc := 12) (pl := 1) X dX8_put_12 rfl ?_
    refine g_getf (pc := 13) X zF_X8_put_35 hO rfl dX8_put_13 ?_
    obtain ⟨hRO, -⟩ := id hPd
    refine g_getf (pc := 16) X zF_X8_put_130 hRO rfl dX8_put_16 ?_
    refine g_iload_n (pc := 19) (pl := 0) X dX8_put_19 rfl ?_
    refine g_iadd (pc := 20) X dX8_put_20 ?_
    refine g_bipush (pc := 21) X dX8_put_21 (by decide +kernel) ?_
    refine g_icmp_le (pc := 23) X 29 dX8_put_23 (by decide) (by omega) (by omega) (fun c23 => ?_) (fun c23 => ?_)
    · skip
      refine g_iload_n (pc := 29) (pl := 0) X dX8_put_29 rfl ?_
      refine g_iconst (pc := 30) X dX8_put_30 ?_
      refine g_isub (pc := 31) X dX8_put_31 ?_
      refine g_istore (pc := 32) (lv' := [(4, _), (3, _), (0, _), (1, _)]) X dX8_put_32 (by decide) rfl ?_
      have hL34 : ∀ (fu : Nat) (b : Nat) (bi : Int) (Hx : Heap), b < fu → (bi = (b : Int) - 1) → ((b : Int) ≤ ccS u 8 0) → (AnAt D x lo m sa sl st ss g (n + (ccS u 8 0) - (b : Int)) (ptF u (ccS u 8 0) n f) Hx) → (Fx x lo H Hx) → G K 0 0 Hx 34 [(0, .ref x), (1, .long (lg u)), (4, .int (J bi))] [] := by
        intro fu
        induction fu with
        | zero => intro b bi Hx hm; exact absurd hm (Nat.not_lt_zero _)
        | succ fu ih34 =>
          intro b bi Hx hm hb h1 hA hFz
          obtain ⟨hO, hPg, hMg, hSc, hPd, hRd, hHs, hSl⟩ := id hA
          refine g_iload (pc := 34) (pl := 2) X dX8_put_34 rfl ?_
          refine g_if_lt (pc := 36) X 64 dX8_put_36 (by decide) (by omega) (fun c36 => ?_) (fun c36 => ?_)
          · skip
            have eb : n + (ccS u 8 0) - (b : Int) = n + (ccS u 8 0) := by omega
            rw [eb] at hA
            clear hO hPg hMg hSc hPd hRd hHs hSl
            obtain ⟨hO, hPg, hMg, hSc, hPd, hRd, hHs, hSl⟩ := id hA
            refine g_aload_n (pc := 64) (pl := 0) X dX8_put_64 rfl ?_
            refine g_getf (pc := 65) X zF_X8_put_35 hO rfl dX8_put_65 ?_
            obtain ⟨hRO, -⟩ := id hPd
            refine g_getf (pc := 68) X zF_X8_put_130 hRO rfl dX8_put_68 ?_
            refine g_iret (pc := 71) X R hH dX8_put_71 ?_
            exact ⟨(if_neg (by omega)).trans (if_neg (by omega)), by rw [show ptN u n = n + (ccS u 8 0) from (if_neg (by omega)).trans (if_neg (by omega))]; exact hA, hFz⟩
          · skip
            obtain ⟨b1, rfl⟩ : ∃ z, b = z + 1 := ⟨b - 1, by omega⟩
            have hb1 : bi = (b1 : Int) := by omega
            subst hb1
            refine g_aload_n (pc := 39) (pl := 0) X dX8_put_39 rfl ?_
            refine g_getf (pc := 40) X zF_X8_put_35 hO rfl dX8_put_40 ?_
            refine g_lload_n (pc := 43) (pl := 1) X dX8_put_43 rfl ?_
            refine g_bipush (pc := 44) X dX8_put_44 (by decide +kernel) ?_
            refine g_iload (pc := 46) (pl := 2) X dX8_put_46 rfl ?_
            refine g_imul (pc := 48) X dX8_put_48 ?_
            refine g_lushr (pc := 49) (v := lg (u / 256 ^ b1)) X dX8_put_49 (lg_sh8 hu (by omega)) ?_
            refine g_ldc2 (pc := 50) (v := 255) X (by decide +kernel) dX8_put_50 ?_
            refine g_land (pc := 53) (z := lg (u / 256 ^ b1) &&& 255) X dX8_put_53 rfl ?_
            have hw : u / 256 ^ b1 < 18446744073709551616 := Nat.lt_of_le_of_lt (Nat.div_le_self _ _) hu
            refine g_l2i (pc := 54) (v := J ((u / 256 ^ b1 % 256 : Nat) : Int)) X dX8_put_54 (lg_byte hw) ?_
            obtain ⟨hRO, -⟩ := id hPd
            refine gVv (pc := 55) (n2 := 0) (k2 := 0) X cs_X8_put_215 (c_X6_add (zl K) D base (x + 132) 80 (n + (ccS u 8 0) - ((b1 + 1 : Nat) : Int)) (ptF u (ccS u 8 0) n f) ((u / 256 ^ b1 % 256 : Nat) : Int) (by omega) (by omega)) rfl hRO (by omega) hPd rfl ⟨Nat.le_of_ble_eq_true rfl, Nat.le_of_ble_eq_true rfl⟩ dX8_put_55 (Nat.le_of_ble_eq_true rfl) rfl rfl (fun H1 hp55 hs55 => ?_)
            obtain ⟨hPn, hfq⟩ := hp55
            refine g_iinc (pc := 58) (pl := 2) (x := (b1 : Int)) (lv' := [(4, _), (0, _), (1, _)]) X dX8_put_58 rfl (by decide) rfl ?_
            refine g_goto (pc := 61) X 34 dX8_put_61 (by decide) ?_
            refine G.pick [1, 2, 0] (lv' := [(0, _), (1, _), (4, _)]) rfl ?_
            have hA1 : AnAt D x lo m sa sl st ss g (n + (ccS u 8 0) - (b1 : Int)) (ptF u (ccS u 8 0) n f) H1 := by
              refine hA.pad hfq ?_ hlo
              rw [show n + (ccS u 8 0) - (b1 : Int) = n + (ccS u 8 0) - ((b1 + 1 : Nat) : Int) + 1 by omega]
              refine hPn.congr (fun i i0 i1 => ?_)
              unfold up
              split
              · next e => unfold ptF; rw [if_neg (by omega), show ((ccS u 8 0) - 1 - (i - n)).toNat = b1 by omega]
              · rfl
            exact ih34 b1 _ H1 (by omega) (by omega) (by omega) hA1 (hFz.trans (Fx.of hfq (by omega)))
      refine G.pick [2, 3, 0] (lv' := [(0, _), (1, _), (4, _)]) rfl ?_
      have hA0 : AnAt D x lo m sa sl st ss g (n + (ccS u 8 0) - (((ccS u 8 0).toNat : Nat) : Int)) (ptF u (ccS u 8 0) n f) H := by rw [show n + (ccS u 8 0) - (((ccS u 8 0).toNat : Nat) : Int) = n by omega]; exact hA.pad (Fr.refl _ _) (hPd.congr ptF_lo) hlo
      exact hL34 _ (ccS u 8 0).toNat _ H (Nat.lt_succ_self _) (by omega) (by omega) hA0 (Fx.refl _ _ _)
    · skip
      refine g_bipush (pc := 26) X dX8_put_26 (by decide +kernel) ?_
      refine g_iret (pc := 28) X R hH dX8_put_28 ?_
      exact ⟨(if_neg (by omega)).trans (if_pos (by omega)), by rw [show ptN u n = n from (if_neg (by omega)).trans (if_pos (by omega))]; exact hA.pad (Fr.refl _ _) (hPd.congr ptF_lo) hlo, Fx.refl _ _ _⟩
  · skip
    refine g_bipush (pc := 9) X dX8_put_9 (by decide +kernel) ?_
    refine g_iret (pc := 11) X R hH dX8_put_11 ?_
    exact ⟨if_pos (by omega), by rw [show ptN u n = n from if_pos (by omega)]; exact hA.pad (Fr.refl _ _) (hPd.congr ptF_lo) hlo, Fx.refl _ _ _⟩

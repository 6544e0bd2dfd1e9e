def up2 (ss : Int → Int → Int) (e : Int) (g : Int → Int) : Int → Int → Int := fun j => if j = e then g else ss j
/-- a new page in a slot that was free -/
theorem AnAt.slotNew {D : zD} {x lo d : Nat} {m e : Int} {sa sl : Int → Option Nat} {st ss : Int → Int → Int} {g : Int → Int} {n : Int} {f : Int → Int} {H : Heap} (h : AnAt D x lo m sa sl st ss g n f H) (e0 : 0 ≤ e ∧ e < 2) {g2 : Int → Int} {H1 : Heap} (hlo : x + 151 ≤ lo) (hls : lo ≤ H.size) (fr : Fr (Iv (x + 139) (x + 140)) d H H1) (hs : H.size + 121 ≤ H1.size)
    (ha : Ra D (x + 139) 3 2 (up sl e (some H.size)) H1) (hp : PageAt D H.size g2 H1) : AnAt D x lo m sa (up sl e (some H.size)) st (up2 ss e g2) g n f H1 ∧ Fx x lo H H1 := by
  obtain ⟨hO, hPg, hMg, hSc, hPd, hRd, hHs, hSl⟩ := h
  refine ⟨⟨hO.fr fr (by omega), hPg.fr fr (by omega), hMg.fr fr (by omega), hSc.fr fr (by omega), hPd.fr fr (by omega), hRd.fr fr (by omega), hHs.fr fr (by omega), ⟨ha, hSl.2.1.add e0 fr (by omega) hls hs hp, fun j c j0 j1 hc => ?_, fun i j a c i0 i1 j0 j1 hi hc => ?_⟩⟩, Fx.of fr (by omega)⟩
  · unfold up2
    by_cases z : j = e
    · rw [show up sl e (some H.size) j = some H.size from if_pos z] at hc
      cases hc
      rw [if_pos z]
      exact hp
    · rw [show up sl e (some H.size) j = sl j from if_neg z] at hc
      rw [if_neg z]
      exact (hSl.2.2.1 j c j0 j1 hc).fr fr (by have := (hSl.2.1.1 j c j0 j1 hc).1; omega)
  · by_cases z : j = e
    · rw [show up sl e (some H.size) j = some H.size from if_pos z] at hc
      cases hc
      have := (hHs.2.2.1.1 i a i0 i1 hi).2.1
      omega
    · rw [show up sl e (some H.size) j = sl j from if_neg z] at hc
      exact hSl.2.2.2 i j a c i0 i1 j0 j1 hi hc
theorem up2_up2 (ss : Int → Int → Int) (e : Int) (a b : Int → Int) : up2 (up2 ss e a) e b = up2 ss e b := by
  funext j
  unfold up2
  split <;> rfl

/-- a page's slot comes to be used -/
theorem AnAt.slot {D : zD} {x lo b : Nat} {m e : Int} {sa sl : Int → Option Nat} {st ss : Int → Int → Int} {g : Int → Int} {n : Int} {f : Int → Int} {H : Heap} (h : AnAt D x lo m sa sl st ss g n f H) (e0 : 0 ≤ e ∧ e < 2) (hb : sl e = some b) {g2 : Int → Int} {H1 : Heap} (hlo : x + 151 ≤ lo) (fr : Fr (Iv b (b + 121)) 0 H H1) (hp : PageAt D b g2 H1) : AnAt D x lo m sa sl st (up2 ss e g2) g n f H1 ∧ Fx x lo H H1 := by
  obtain ⟨hO, hPg, hMg, hSc, hPd, hRd, hHs, hSl⟩ := h
  have hbl := (hSl.2.1.1 e b e0.1 e0.2 hb).1
  obtain ⟨k1, k2, k3, k4, k5, k6⟩ := hHs
  have hoff : ∀ (i : Int) (a : Nat), 0 ≤ i → i < 7 → sa i = some a → a + 121 ≤ b ∨ b + 121 ≤ a := fun i a i0 i1 ha => hSl.2.2.2 i e a b i0 i1 e0.1 e0.2 ha hb
  refine ⟨⟨hO.fr fr (by omega), hPg.fr fr (by omega), hMg.fr fr (by omega), hSc.fr fr (by omega), hPd.fr fr (by omega), hRd.fr fr (by omega), ⟨k1.fr fr (by omega), k2.fr fr (by omega), ⟨fun i a i0 i1 ha => ?_, k3.2⟩, fun i i0 i1 => ?_, k5, k6⟩, ⟨hSl.1.fr fr (by omega), hSl.2.1.one e0 hb fr hp, fun j c j0 j1 hc => ?_, hSl.2.2.2⟩⟩, Fx.of fr (by omega)⟩
  · obtain ⟨q1, q2, gg, q3⟩ := k3.1 i a i0 i1 ha
    exact ⟨q1, by have := fr.1; omega, gg, q3.fr fr (by have := hoff i a i0 i1 ha; omega)⟩
  · obtain ⟨a, ha, hpa⟩ := k4 i i0 i1
    exact ⟨a, ha, hpa.fr fr (by have := hoff i a i0 (by omega) ha; omega)⟩
  · unfold up2
    by_cases z : j = e
    · rw [z, hb] at hc
      cases hc
      rw [if_pos z]
      exact hp
    · rw [if_neg z]
      exact (hSl.2.2.1 j c j0 j1 hc).fr fr (by have := hSl.2.1.2 j e c b j0 j1 e0.1 e0.2 z hc hb; omega)

abbrev rm_X8_save : Room := { frames := 4, cells := 121, slots := 4272, locals := 126 }
theorem zF_X8_save_53 : zF RX8 wsX8_save 8 6 53 := ⟨RX8, TX8, 7, rfl, by decide +kernel, by decide, by decide +kernel⟩
theorem cs_X8_save_9 : zCI RX8 wsX8_save 9 yX4_init wsX4_init cX4_init 2 rm_X8_save rm_X4_init 0 := ⟨_, gX8_save_X4_init, Or.inl (by decide +kernel), by decide +kernel, by decide +kernel, rfl, rfl, ⟨by decide +kernel, by decide +kernel, by decide +kernel⟩, ⟨Nat.le_of_ble_eq_true rfl, Nat.le_of_ble_eq_true rfl⟩⟩
theorem zF_X8_save_10 : zF RX8 wsX8_save 8 0 10 := ⟨RX8, TX8, 7, rfl, by decide +kernel, by decide, by decide +kernel⟩
theorem cs_X8_save_243 : zCV RX8 wsX8_save 243 4 yX4_copyFrom wsX4_copyFrom cX4_copyFrom 5 none rm_X8_save rm_X4_copyFrom 1 := ⟨_, _, gX8_save_X4_copyFrom, rfl, ⟨by decide +kernel, by decide +kernel, by decide +kernel⟩, ⟨Nat.le_of_ble_eq_true rfl, Nat.le_of_ble_eq_true rfl⟩, rfl, rfl⟩
theorem zF_X8_save_92 : zF RX8 wsX8_save 4 1 92 := ⟨RX4, TX4, 6, rfl, by decide +kernel, by decide, by decide +kernel⟩
theorem zF_X8_save_130 : zF RX8 wsX8_save 6 1 130 := ⟨RX6, TX6, 2, rfl, by decide +kernel, by decide, by decide +kernel⟩
set_option maxRecDepth 100000 in
theorem c_X8_save (l : Launch) (D : zD) (base : Nat) (x lo : Nat) (m : Int) (sa sl : Int → Option Nat) (st ss : Int → Int → Int) (g : Int → Int) (n : Int) (f : Int → Int) (e : Int) (hq : base ≤ x) (hlo : x + 151 ≤ lo) (hI : PInv g) (he : rg e) : Ct l yX8_save wsX8_save rm_X8_save D base [.ref x, .int (J e)] (fun H => AnAt D x lo m sa sl st ss g n f H ∧ lo ≤ H.size) (PI (fun H v H1 => (if 0 ≤ e ∧ e < 2 then g 0 else -2) = v ∧ ∃ sl2 : Int → Option Nat, (∀ j : Int, ¬ j = e → sl2 j = sl j) ∧ (0 ≤ e ∧ e < 2 → ¬ sl2 e = none) ∧ (¬ (0 ≤ e ∧ e < 2) → sl2 = sl) ∧ AnAt D x lo m sa sl2 st (if 0 ≤ e ∧ e < 2 then up2 ss e g else ss) g n f H1 ∧ Fx x lo H H1)) := by
  refine Ct.of (own := RX8) (cc := cX8_save) (maxL := 3) (by decide +kernel) rfl (Nat.le_of_ble_eq_true rfl) rfl ?_
  intro K H X R hH hnm hP
  show G K 0 0 H 0 [(0, .ref x), (1, .int (J e))] []
  obtain ⟨hA, hls⟩ := hP
  obtain ⟨hO, hPg, hMg, hSc, hPd, hRd, hHs, hSl⟩ := id hA
  obtain ⟨hSa, hSp, hSs, hSx⟩ := id hSl
  obtain ⟨hPO, hPS, hPL, hPW, hPN, hPQ, hPk0, hPk1⟩ := id hPg
  refine g_iload_n (pc := 0) (pl := 1) X dX8_save_0 rfl ?_
  refine g_if_lt (pc := 1) X 13 dX8_save_1 (by decide) (by omega) (fun c1 => ?_) (fun c1 => ?_)
  · skip
    refine g_bipush (pc := 13) X dX8_save_13 (by decide +kernel) ?_
    refine G.widen (n' := 121) (k' := 4272) (by omega) (by omega) ?_
    refine g_iret (pc := 15) X R hH dX8_save_15 ?_
    exact ⟨if_neg (by omega), sl, fun _ _ => rfl, fun z => absurd z (by omega), fun _ => rfl, by rw [if_neg (by omega)]; exact hA, Fx.refl _ _ _⟩
  · skip
    refine g_iload_n (pc := 4) (pl := 1) X dX8_save_4 rfl ?_
    refine g_aload_n (pc := 5) (pl := 0) X dX8_save_5 rfl ?_
    refine g_getf (pc := 6) X zF_X8_save_53 hO rfl dX8_save_6 ?_
    refine g_alenR (pc := 9) X hSa (by decide) dX8_save_9 ?_
    refine g_icmp_lt (pc := 10) X 16 dX8_save_10 (by decide) (by omega) (by omega) (fun c10 => ?_) (fun c10 => ?_)
    · skip
      refine g_aload_n (pc := 16) (pl := 0) X dX8_save_16 rfl ?_
      refine g_getf (pc := 17) X zF_X8_save_53 hO rfl dX8_save_17 ?_
      refine g_iload_n (pc := 20) (pl := 1) X dX8_save_20 rfl ?_
      by_cases hn : sl e = none
      · skip
        refine g_aaload (pc := 21) (v := .null) X hSa (by decide) (by omega) (by omega) (by omega) (by rw [hn]; rfl) dX8_save_21 ?_
        refine g_ifnonnullN (pc := 22) X dX8_save_22 ?_
        refine g_aload_n (pc := 25) (pl := 0) X dX8_save_25 rfl ?_
        refine g_getf (pc := 26) X zF_X8_save_53 hO rfl dX8_save_26 ?_
        refine g_iload_n (pc := 29) (pl := 1) X dX8_save_29 rfl ?_
        obtain ⟨sz, hsz0⟩ : ∃ z, H.size = z := ⟨_, rfl⟩
        have hsz : H.size = sz + 0 := hsz0
        refine g_new (pc := 30) (ci := 4) (C := RX4) (T := TX4) (N := 6) (tys := tyX4) (fs := [.null, .null, .null, .null, .int (J 0), .null]) (n2 := 1) (k2 := 6) X rfl (by decide +kernel) tyX4_ok (by decide +kernel) (by decide +kernel) (by decide +kernel) (by decide +kernel) (Nat.le_of_ble_eq_true rfl) (Nat.le_of_ble_eq_true rfl) dX8_save_30 rfl rfl (fun H1 hz1 hNew hon1 => ?_)
        rw [hsz] at hNew ⊢
        have hPo := hNew
        clear hNew
        have hf1 : Fr (Iv 0 0) 1 H H1 := Fr.new hz1 hon1
        replace hsz : H1.size = sz + 1 := by have e := hf1.1; omega
        replace hO := hO.fr hf1 (by omega)
        replace hPO := hPO.fr hf1 (by omega)
        replace hSa := hSa.fr hf1 (by omega)
        refine g_dup (pc := 33) X dX8_save_33 rfl ?_
        refine gIv (pc := 34) (n2 := 121) (k2 := 4272) X cs_X8_save_9 (c_X4_init (zl K) D base (sz + 0) (by omega)) rfl (by omega) ⟨hPo, hsz⟩ rfl ⟨(Nat.le_of_ble_eq_true rfl), (Nat.le_of_ble_eq_true rfl)⟩ dX8_save_34 (Nat.le_of_ble_eq_true rfl) rfl rfl (fun H2 hp34 hs34 => ?_)
        obtain ⟨hPn, hfd⟩ := hp34
        replace hsz : H2.size = sz + 121 := by have e := hfd.1; omega
        replace hO := hO.fr hfd (by omega)
        replace hPO := hPO.fr hfd (by omega)
        replace hSa := hSa.fr hfd (by omega)
        obtain ⟨hPO9, -⟩ := id hPn
        refine g_aastore (pc := 37) X hSa (by decide) hPO9 (by omega) (by omega) (by omega) (by omega) dX8_save_37 (fun H3 hSan hf3 => ?_)
        replace hsz : H3.size = sz + 121 := by have e := hf3.1; omega
        replace hO := hO.fr hf3 (by omega)
        replace hPO := hPO.fr hf3 (by omega)
        replace hPn := hPn.fr hf3 (by omega)
        replace hSa := hSan
        clear hSan
        have hfx : Fr (Iv (x + 139) (x + 140)) 121 H H3 := Fr.trans (Fr.newer (F := Iv (x + 139) (x + 140)) hf1.any hfd (by omega)) (hf3.wide (by omega) (by omega))
        rw [show sz + 0 = H.size from hsz0.symm] at hSa
        obtain ⟨hA1, hF1⟩ := hA.slotNew (by omega) hlo hls hfx (by have := hfx.1; omega) hSa (by rw [hsz0]; exact hPn)
        clear hA hPn hPO9 hPO hPS hPL hPW hPN hPQ hPk0 hPk1 hSp hSs hSx hSa hO hPg hMg hSc hPd hRd hHs hSl
        have hA := hA1
        clear hA1
        obtain ⟨hO, hPg, hMg, hSc, hPd, hRd, hHs, hSl⟩ := id hA
        obtain ⟨hSa, -⟩ := id hSl
        have hSs := hSl
        refine g_aload_n (pc := 38) (pl := 0) X dX8_save_38 rfl ?_
        refine g_getf (pc := 39) X zF_X8_save_53 hO rfl dX8_save_39 ?_
        refine g_iload_n (pc := 42) (pl := 1) X dX8_save_42 rfl ?_
        refine g_aaload (pc := 43) (v := .ref (sz + 0)) X hSa (by decide) (by omega) (by omega) (by omega) (by show va_rf (up sl e (some H.size) e) = _; rw [show up sl e (some H.size) e = some H.size from if_pos rfl, hsz0]; rfl) dX8_save_43 ?_
        refine g_astore_n (pc := 44) (lv' := [(2, _), (0, _), (1, _)]) X dX8_save_44 (by decide) rfl ?_
        refine g_aload_n (pc := 45) (pl := 0) X dX8_save_45 rfl ?_
        refine g_aload_n (pc := 46) (pl := 1) X dX8_save_46 rfl ?_
        refine g_getf (pc := 47) X zF_X8_save_10 hO rfl dX8_save_47 ?_
        have eb : up sl e (some H.size) e = some (sz + 0) := (if_pos rfl).trans (congrArg some hsz0)
        have hPb := hSs.2.2.1 e (sz + 0) (by omega) (by omega) eb
        obtain ⟨hPbO, -⟩ := id hPb
        refine gVv (pc := 50) (n2 := 121) (k2 := 4272) X cs_X8_save_243 (c_X4_copyFrom (zl K) D base (sz + 0) (x + 1) (up2 ss e g0 e) g (by omega) (by omega) (by omega)) rfl hPbO (by omega) ⟨hPb, hPg⟩ rfl ⟨Nat.le_of_ble_eq_true rfl, Nat.le_of_ble_eq_true rfl⟩ dX8_save_50 (Nat.le_of_ble_eq_true rfl) rfl rfl (fun H4 hp50 hs50 => ?_)
        obtain ⟨hPn, hfc⟩ := hp50
        obtain ⟨hA2, hF2⟩ := hA.slot (by omega) eb hlo hfc hPn
        rw [up2_up2] at hA2
        clear hA hPbO hPb hSs hO hPg hMg hSc hPd hRd hHs hSl
        have hA := hA2
        clear hA2
        obtain ⟨hO, hPg, hMg, hSc, hPd, hRd, hHs, hSl⟩ := id hA
        obtain ⟨hPO, hPS, hPL, hPW, hPN, hPQ, hPk0, hPk1⟩ := id hPg
        have hF3 := hF1.trans hF2
        refine g_aload_n (pc := 53) (pl := 1) X dX8_save_53 rfl ?_
        refine g_getf (pc := 54) X zF_X8_save_10 hO rfl dX8_save_54 ?_
        refine g_getf (pc := 57) X zF_X8_save_92 hPO rfl dX8_save_57 ?_
        obtain ⟨hRO, -⟩ := id hPL
        refine g_getf (pc := 60) X zF_X8_save_130 hRO rfl dX8_save_60 ?_
        refine g_iret (pc := 63) X R hH dX8_save_63 ?_
        exact ⟨if_pos (by omega), up sl e (some H.size), fun j hj => if_neg hj, fun _ z => (by rw [show up sl e (some H.size) e = some H.size from if_pos rfl] at z; cases z), fun z => absurd z (by omega), by rw [if_pos (by omega)]; exact hA, hF3⟩
      · skip
        obtain ⟨b, hb⟩ := Ra.some_ref hn
        have hbl := (hSp.1 e b (by omega) (by omega) hb).1
        refine g_aaload (pc := 21) (v := .ref b) X hSa (by decide) (by omega) (by omega) (by omega) (by rw [hb]; rfl) dX8_save_21 ?_
        refine g_ifnonnull (pc := 22) X 38 dX8_save_22 (by decide) ?_
        refine g_aload_n (pc := 38) (pl := 0) X dX8_save_38 rfl ?_
        refine g_getf (pc := 39) X zF_X8_save_53 hO rfl dX8_save_39 ?_
        refine g_iload_n (pc := 42) (pl := 1) X dX8_save_42 rfl ?_
        refine g_aaload (pc := 43) (v := .ref b) X hSa (by decide) (by omega) (by omega) (by omega) (by rw [hb]; rfl) dX8_save_43 ?_
        refine g_astore_n (pc := 44) (lv' := [(2, _), (0, _), (1, _)]) X dX8_save_44 (by decide) rfl ?_
        refine g_aload_n (pc := 45) (pl := 0) X dX8_save_45 rfl ?_
        refine g_aload_n (pc := 46) (pl := 1) X dX8_save_46 rfl ?_
        refine g_getf (pc := 47) X zF_X8_save_10 hO rfl dX8_save_47 ?_
        have hPb := hSs e b (by omega) (by omega) hb
        obtain ⟨hPbO, -⟩ := id hPb
        refine gVv (pc := 50) (n2 := 0) (k2 := 0) X cs_X8_save_243 (c_X4_copyFrom (zl K) D base b (x + 1) (ss e) g (by omega) (by omega) (by omega)) rfl hPbO (by omega) ⟨hPb, hPg⟩ rfl ⟨Nat.le_of_ble_eq_true rfl, Nat.le_of_ble_eq_true rfl⟩ dX8_save_50 (Nat.le_of_ble_eq_true rfl) rfl rfl (fun H1 hp50 hs50 => ?_)
        obtain ⟨hPn, hfc⟩ := hp50
        obtain ⟨hA2, hF3⟩ := hA.slot (by omega) hb hlo hfc hPn
        clear hA hPbO hPb hO hPg hMg hSc hPd hRd hHs hSl
        have hA := hA2
        clear hA2
        obtain ⟨hO, hPg, hMg, hSc, hPd, hRd, hHs, hSl⟩ := id hA
        obtain ⟨hPO, hPS, hPL, hPW, hPN, hPQ, hPk0, hPk1⟩ := id hPg
        refine g_aload_n (pc := 53) (pl := 1) X dX8_save_53 rfl ?_
        refine g_getf (pc := 54) X zF_X8_save_10 hO rfl dX8_save_54 ?_
        refine g_getf (pc := 57) X zF_X8_save_92 hPO rfl dX8_save_57 ?_
        obtain ⟨hRO, -⟩ := id hPL
        refine g_getf (pc := 60) X zF_X8_save_130 hRO rfl dX8_save_60 ?_
        refine G.widen (n' := 121) (k' := 4272) (by omega) (by omega) ?_
        refine g_iret (pc := 63) X R hH dX8_save_63 ?_
        exact ⟨if_pos (by omega), sl, fun _ _ => rfl, fun _ => hn, fun z => absurd z (by omega), by rw [if_pos (by omega)]; exact hA, hF3⟩
    · skip
      refine g_bipush (pc := 13) X dX8_save_13 (by decide +kernel) ?_
      refine G.widen (n' := 121) (k' := 4272) (by omega) (by omega) ?_
      refine g_iret (pc := 15) X R hH dX8_save_15 ?_
      exact ⟨if_neg (by omega), sl, fun _ _ => rfl, fun z => absurd z (by omega), fun _ => rfl, by rw [if_neg (by omega)]; exact hA, Fx.refl _ _ _⟩

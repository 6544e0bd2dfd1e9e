theorem okN_iff {f : Int → Int} {n p : Int} (hI : PInv f) (hn : 0 ≤ n ∧ n < f 1) (ht : f (125 + 80 * n) = -6) (hp : 0 ≤ p) : okN f n p = true ↔ p + f (126 + 80 * n) ≤ f 0 ∧ ∀ i : Int, 0 ≤ i → i < f (126 + 80 * n) → f (5 + (p + i)) = f (127 + 80 * n + i) := by
  have hv := hI.nt hn.1 hn.2 ht
  constructor
  · intro h
    have h1 := alk_all (of_decide_eq_true h)
    have h2 := okS_in h hv.1 (fun i i0 i1 => (hv.2.2.2.2.2.2.1 i i0 i1).1)
    refine ⟨h2.2, fun i i0 i1 => ?_⟩
    have h3 := h1 i i0 i1
    rw [show p + i * 1 = p + i by omega] at h3
    exact (if_pos (show 0 ≤ p + i ∧ p + i < f 0 by omega)).symm.trans h3
  · rintro ⟨h1, h2⟩
    refine decide_eq_true (alk_of (v := f (126 + 80 * n)) (by omega) (by omega) (fun i i0 i1 => ?_) (Or.inl rfl)).symm
    rw [show p + i * 1 = p + i by omega]
    exact (if_pos (show 0 ≤ p + i ∧ p + i < f 0 by omega)).trans (h2 i i0 i1)
def LkI (f : Int → Int) (n p k iv : Int) : Prop := (iv = 1 ∧ p + f (126 + 80 * n) ≤ f 0 ∧ ∀ i : Int, 0 ≤ i → i < k → f (5 + (p + i)) = f (127 + 80 * n + i)) ∨ (iv = 0 ∧ ¬ okN f n p = true)
def psR (f : Int → Int) (n w : Int) : Int := if (bstN f n).2.2 = 0 then -6 else if w = 0 then (bstN f n).1 else if w = 1 then (bstN f n).2.1 else (bstN f n).2.2
theorem rc_eq {f : Int → Int} {n : Int} (hI : PInv f) (hn : 0 ≤ n ∧ n < f 1) (ht : f (125 + 80 * n) = -6) {p : Int} (hok : okN f n p = true) (hp : 0 ≤ p) : MEq (anG f n p (p + f (126 + 80 * n) - 1)) (tkX f n p (p + f (126 + 80 * n) - 1)) := by
  have hnu := hI.nums
  have hv := hI.nt hn.1 hn.2 ht
  obtain ⟨h1, h2⟩ := (okN_iff hI hn ht hp).mp hok
  obtain ⟨t1, t2, t3, t4, t5, t6, t7⟩ := tkX_at (F := f) (n := n) (a := p) (b := p + f (126 + 80 * n) - 1) hn.1 (by omega) (by omega)
  refine an_eq hn (by omega) (by omega) (by omega) (fun j j0 j1 => t1 j (by omega)) (fun i i0 i1 => t1 _ (by omega)) (fun i i0 i1 => t2 i i0 (by omega)) (fun j j0 j1 => t3 j j0 (by omega)) (fun k k0 k1 _ => hI.lns' k0 k1) ⟨?_, ?_, t4, t5⟩ (fun j j0 j1 => ?_) t6 t7
  · rw [t3 _ (by omega) (by omega)]; exact ht
  · rw [t3 _ (by omega) (by omega)]; omega
  · rw [t3 _ (by omega) (by omega)]; exact (h2 j j0 (by omega)).symm
def mrR (f : Int → Int) (n : Int) : Int := if ¬ isN f n then -1 else if ¬ stt f n = 1 then -5 else if (bstN f n).2.2 = 0 then -5 else 0
theorem mrR_may {f : Int → Int} (hI : PInv f) {n : Int} : (mrR f n = 0 ∧ (0 ≤ n ∧ n < f 1) ∧ f (125 + 80 * n) = -6 ∧ stt f n = 1 ∧ 0 < (bstN f n).2.2 ∧ 0 ≤ (bstN f n).1 ∧ okN f n (bstN f n).1 = true ∧ rcR f n = (bstN f n).1) ∨ (mrR f n < 0 ∧ rcR f n = mrR f n) := by
  by_cases z : isN f n
  · by_cases z2 : stt f n = 1
    · have ht := stt_1 z2
      have hb := best_bd (okN f n) (lkN f n) (lkN_bd hI z.1 z.2 ht) (f 0).toNat
      by_cases z3 : (bstN f n).2.2 = 0
      · have e1 : mrR f n = -5 := (if_neg (fun y => y z)).trans ((if_neg (fun y => y z2)).trans (if_pos z3))
        have e2 : rcR f n = -5 := (if_neg (fun y => y z)).trans ((if_neg (fun y => y z2)).trans (if_pos z3))
        exact Or.inr ⟨by omega, by omega⟩
      · have e1 : mrR f n = 0 := (if_neg (fun y => y z)).trans ((if_neg (fun y => y z2)).trans (if_neg z3))
        have e2 : rcR f n = (bstN f n).1 := (if_neg (fun y => y z)).trans ((if_neg (fun y => y z2)).trans (if_neg z3))
        have h0 : 0 ≤ (bstN f n).2.2 := hb.1
        have h4 := hb.2.2.2 (show 0 < (bstN f n).2.2 by omega)
        exact Or.inl ⟨e1, z, ht, z2, by omega, h4.1, h4.2.2.2.2, e2⟩
    · have e1 : mrR f n = -5 := (if_neg (fun y => y z)).trans (if_pos z2)
      have e2 : rcR f n = -5 := (if_neg (fun y => y z)).trans (if_pos z2)
      exact Or.inr ⟨by omega, by omega⟩
  · have e1 : mrR f n = -1 := if_pos z
    have e2 : rcR f n = -1 := if_pos z
    exact Or.inr ⟨by omega, by omega⟩
theorem orI_yes {g : Int → Int} {a b : Int} {k u w : Nat} (h : orI g a b k = (u, w)) (c : a ≤ (k : Int) ∧ (k : Int) ≤ b) : orI g a b (k + 1) = (u ||| (g (65 + (k : Int))).toNat, w) := by
  have e : orI g a b (k + 1) = if a ≤ (k : Int) ∧ (k : Int) ≤ b then ((orI g a b k).1 ||| (OW g k).toNat, (orI g a b k).2) else ((orI g a b k).1, (orI g a b k).2 ||| (OW g k).toNat) := rfl
  rw [e, if_pos c, h]
theorem orI_no {g : Int → Int} {a b : Int} {k u w : Nat} (h : orI g a b k = (u, w)) (c : ¬ (a ≤ (k : Int) ∧ (k : Int) ≤ b)) : orI g a b (k + 1) = (u, w ||| (g (65 + (k : Int))).toNat) := by
  have e : orI g a b (k + 1) = if a ≤ (k : Int) ∧ (k : Int) ≤ b then ((orI g a b k).1 ||| (OW g k).toNat, (orI g a b k).2) else ((orI g a b k).1, (orI g a b k).2 ||| (OW g k).toNat) := rfl
  rw [e, if_neg c, h]

abbrev rm_X9_looksLike : Room := { frames := 1, cells := 0, slots := 0, locals := 22 }
theorem cs_X9_looksLike_45 : zCV RX9 wsX9_looksLike 45 9 yX9_of0 wsX9_of0 cX9_of0 3 (some .int) rm_X9_looksLike rm_X9_of0 2 := ⟨_, _, gX9_looksLike_X9_of0, rfl, ⟨by decide +kernel, by decide +kernel, by decide +kernel⟩, ⟨Nat.le_of_ble_eq_true rfl, Nat.le_of_ble_eq_true rfl⟩, rfl, rfl⟩
theorem zF_X9_looksLike_7 : zF RX9 wsX9_looksLike 9 0 7 := ⟨RX9, TX9, 17, rfl, by decide +kernel, by decide, by decide +kernel⟩
set_option maxRecDepth 100000 in
theorem c_X9_looksLike (l : Launch) (D : zD) (base : Nat) (y : Nat) (kp pd at' od fi la pc : Int) (f : Int → Int) (n p : Int) (hq : base ≤ y) (hI : PInv f) (hn : 0 ≤ n ∧ n < f 1) (ht : f (125 + 80 * n) = -6) (hp : 0 ≤ p ∧ p < f 0) : Ct l yX9_looksLike wsX9_looksLike rm_X9_looksLike D base [.ref y, .int (J n), .int (J p)] (fun H => MoO D y kp pd at' od fi la pc H ∧ NwAt D y f H) (PI (fun H v H1 => H = H1 ∧ (if okN f n p = true then 1 else 0) = v)) := by
  refine Ct.of (own := RX9) (cc := cX9_looksLike) (maxL := 6) (by decide +kernel) rfl (Nat.le_of_ble_eq_true rfl) rfl ?_
  intro K H X R hH hnm hP
  show G K 0 0 H 0 [(0, .ref y), (1, .int (J n)), (2, .int (J p))] []
  obtain ⟨hO, hNw⟩ := hP
  have hnum := hI.nums
  have hv := hI.nt hn.1 hn.2 ht
  refine g_aload_n (pc := 0) (pl := 0) X dX9_looksLike_0 rfl ?_
  refine g_iload_n (pc := 1) (pl := 1) X dX9_looksLike_1 rfl ?_
  refine g_iconst (pc := 2) X dX9_looksLike_2 ?_
  refine gVi (pc := 3) (n2 := 0) (k2 := 0) X cs_X9_looksLike_45 (c_X9_of0 (zl K) D base y kp pd at' od fi la pc f n 1 hq (by omega) (by omega)) rfl hO (by omega) ⟨hO, hNw⟩ rfl ⟨Nat.le_of_ble_eq_true rfl, Nat.le_of_ble_eq_true rfl⟩ dX9_looksLike_3 (Nat.le_of_ble_eq_true rfl) rfl rfl (fun v3 H1 hp3 hs3 => ?_)
  obtain ⟨rfl, rfl⟩ := hp3
  rw [show f (125 + 80 * n + 1) = f (126 + 80 * n) from congrArg f (by omega)]
  refine g_istore_n (pc := 6) (lv' := [(3, _), (0, _), (1, _), (2, _)]) X dX9_looksLike_6 (by decide) rfl ?_
  refine g_iload_n (pc := 7) (pl := 3) X dX9_looksLike_7 rfl ?_
  refine g_iload_n (pc := 8) (pl := 0) X dX9_looksLike_8 rfl ?_
  refine g_iadd (pc := 9) X dX9_looksLike_9 ?_
  refine g_aload_n (pc := 10) (pl := 1) X dX9_looksLike_10 rfl ?_
  refine g_getf (pc := 11) X zF_X9_looksLike_7 hO rfl dX9_looksLike_11 ?_
  refine g_iconst (pc := 14) X dX9_looksLike_14 ?_
  refine g_iaload (pc := 15) X hNw (by omega) (by omega) (by omega) dX9_looksLike_15 ?_
  refine g_icmp_gt (pc := 16) X 23 dX9_looksLike_16 (by decide) (by omega) (by omega) (fun c16 => ?_) (fun c16 => ?_)
  · skip
    refine g_iconst (pc := 23) X dX9_looksLike_23 ?_
    refine g_istore (pc := 24) (lv' := [(4, _), (3, _), (0, _), (1, _), (2, _)]) X dX9_looksLike_24 (by decide) rfl ?_
    refine g_iconst (pc := 26) X dX9_looksLike_26 ?_
    refine g_istore (pc := 27) (lv' := [(5, _), (4, _), (3, _), (0, _), (1, _), (2, _)]) X dX9_looksLike_27 (by decide) rfl ?_
    have hL29 : ∀ (fu : Nat) (k : Nat) (ki iv : Int), (f (126 + 80 * n)).toNat - k < fu → (ki = (k : Int)) → ((k : Int) ≤ f (126 + 80 * n)) → (iv = 0 ∨ iv = 1) → (LkI f n p (k : Int) iv) → G K 0 0 H 29 [(0, .ref y), (1, .int (J n)), (2, .int (J p)), (3, .int (J (f (126 + 80 * n)))), (4, .int (J iv)), (5, .int (J ki))] [] := by
      intro fu
      induction fu with
      | zero => intro k ki iv hm; exact absurd hm (Nat.not_lt_zero _)
      | succ fu ih29 =>
        intro k ki iv hm he h1 hiv hq9
        subst he
        refine g_iload (pc := 29) (pl := 5) X dX9_looksLike_29 rfl ?_
        refine g_iload_n (pc := 31) (pl := 3) X dX9_looksLike_31 rfl ?_
        refine g_icmp_ge (pc := 32) X 76 dX9_looksLike_32 (by decide) (by omega) (by omega) (fun c32 => ?_) (fun c32 => ?_)
        · skip
          refine g_iload (pc := 76) (pl := 4) X dX9_looksLike_76 rfl ?_
          refine g_zret (pc := 78) X R hH (by first | exact Or.inl rfl | exact Or.inr rfl | omega) dX9_looksLike_78 ?_
          refine ⟨rfl, ?_⟩
          rcases hq9 with z | z
          · rw [z.1]; first | exact if_pos ((okN_iff hI hn ht hp.1).mpr ⟨z.2.1, fun i i0 i1 => z.2.2 i i0 (by omega)⟩) | (exfalso; have := z.1; omega)
          · rw [z.1]; exact if_neg z.2
        · skip
          refine g_iload (pc := 35) (pl := 4) X dX9_looksLike_35 rfl ?_
          refine g_if_eq (pc := 37) X 76 dX9_looksLike_37 (by decide) (by omega) (fun c37 => ?_) (fun c37 => ?_)
          · skip
            refine g_iload (pc := 76) (pl := 4) X dX9_looksLike_76 rfl ?_
            refine g_zret (pc := 78) X R hH (by first | exact Or.inl rfl | exact Or.inr rfl | omega) dX9_looksLike_78 ?_
            refine ⟨rfl, ?_⟩
            rcases hq9 with z | z
            · rw [z.1]; first | exact if_pos ((okN_iff hI hn ht hp.1).mpr ⟨z.2.1, fun i i0 i1 => z.2.2 i i0 (by omega)⟩) | (exfalso; have := z.1; omega)
            · rw [z.1]; exact if_neg z.2
          · skip
            refine g_aload_n (pc := 40) (pl := 0) X dX9_looksLike_40 rfl ?_
            refine g_getf (pc := 41) X zF_X9_looksLike_7 hO rfl dX9_looksLike_41 ?_
            refine g_iconst (pc := 44) X dX9_looksLike_44 ?_
            refine g_iload_n (pc := 45) (pl := 2) X dX9_looksLike_45 rfl ?_
            refine g_iadd (pc := 46) X dX9_looksLike_46 ?_
            refine g_iload (pc := 47) (pl := 5) X dX9_looksLike_47 rfl ?_
            refine g_iadd (pc := 49) X dX9_looksLike_49 ?_
            refine g_iaload (pc := 50) X hNw (by omega) (by omega) (by omega) dX9_looksLike_50 ?_
            refine g_aload_n (pc := 51) (pl := 0) X dX9_looksLike_51 rfl ?_
            refine g_iload_n (pc := 52) (pl := 1) X dX9_looksLike_52 rfl ?_
            refine g_iconst (pc := 53) X dX9_looksLike_53 ?_
            refine g_iload (pc := 54) (pl := 5) X dX9_looksLike_54 rfl ?_
            refine g_iadd (pc := 56) X dX9_looksLike_56 ?_
            have hw := hv.2.2.2.2.2.2.1 (k : Int) (by omega) (by omega)
            have hlt : p + f (126 + 80 * n) ≤ f 0 := by rcases hq9 with z | z; exact z.2.1; exact absurd z.1 c37
            have hle := hI.let (p + (k : Int)) (by omega) (by omega)
            have hle2 : f (5 + p + (k : Int)) = f (5 + (p + (k : Int))) := congrArg f (by omega)
            refine gVi (pc := 57) (n2 := 0) (k2 := 0) X cs_X9_looksLike_45 (c_X9_of0 (zl K) D base y kp pd at' od fi la pc f n (2 + (k : Int)) hq (by omega) (by omega)) rfl hO (by omega) ⟨hO, hNw⟩ rfl ⟨Nat.le_of_ble_eq_true rfl, Nat.le_of_ble_eq_true rfl⟩ dX9_looksLike_57 (Nat.le_of_ble_eq_true rfl) rfl rfl (fun v57 H1 hp57 hs57 => ?_)
            obtain ⟨rfl, rfl⟩ := hp57
            rw [show f (125 + 80 * n + (2 + (k : Int))) = f (127 + 80 * n + (k : Int)) from congrArg f (by omega)]
            refine g_icmp_ne (pc := 60) X 67 dX9_looksLike_60 (by decide) (by rw [hle2]; have h9 : 0 ≤ f (5 + (p + (k : Int))) ∧ f (5 + (p + (k : Int))) ≤ 25 := hle; omega) (by omega) (fun c60 => ?_) (fun c60 => ?_)
            · skip
              refine g_iconst (pc := 67) X dX9_looksLike_67 ?_
              refine g_istore (pc := 68) (lv' := [(4, _), (0, _), (1, _), (2, _), (3, _), (5, _)]) X dX9_looksLike_68 (by decide) rfl ?_
              refine g_iinc (pc := 70) (pl := 5) (x := (k : Int)) (lv' := [(5, _), (4, _), (0, _), (1, _), (2, _), (3, _)]) X dX9_looksLike_70 rfl (by decide) rfl ?_
              refine g_goto (pc := 73) X 29 dX9_looksLike_73 (by decide) ?_
              refine G.pick [2, 3, 4, 5, 1, 0] (lv' := [(0, _), (1, _), (2, _), (3, _), (4, _), (5, _)]) rfl ?_
              rcases hq9 with z | z
              rotate_left
              exact absurd z.1 c37
              obtain ⟨z1, z2, z3⟩ := z
              exact ih29 (k + 1) _ _ (by omega) (by omega) (by omega) (by omega) (Or.inr ⟨rfl, fun w => c60 (hle2.trans (((okN_iff hI hn ht hp.1).mp w).2 (k : Int) (by omega) (by omega)))⟩)
            · skip
              refine g_iconst (pc := 63) X dX9_looksLike_63 ?_
              refine g_goto (pc := 64) X 68 dX9_looksLike_64 (by decide) ?_
              refine g_istore (pc := 68) (lv' := [(4, _), (0, _), (1, _), (2, _), (3, _), (5, _)]) X dX9_looksLike_68 (by decide) rfl ?_
              refine g_iinc (pc := 70) (pl := 5) (x := (k : Int)) (lv' := [(5, _), (4, _), (0, _), (1, _), (2, _), (3, _)]) X dX9_looksLike_70 rfl (by decide) rfl ?_
              refine g_goto (pc := 73) X 29 dX9_looksLike_73 (by decide) ?_
              refine G.pick [2, 3, 4, 5, 1, 0] (lv' := [(0, _), (1, _), (2, _), (3, _), (4, _), (5, _)]) rfl ?_
              rcases hq9 with z | z
              rotate_left
              exact absurd z.1 c37
              obtain ⟨z1, z2, z3⟩ := z
              exact ih29 (k + 1) _ _ (by omega) (by omega) (by omega) (by omega) (Or.inl ⟨rfl, z2, fun i i0 i1 => by by_cases c : i = (k : Int); (rw [c, ← hle2]; exact c60); (exact z3 i i0 (by omega))⟩)
    refine G.pick [3, 4, 5, 2, 1, 0] (lv' := [(0, _), (1, _), (2, _), (3, _), (4, _), (5, _)]) rfl ?_
    exact hL29 _ 0 _ _ (Nat.lt_succ_self _) rfl (by omega) (by omega) (Or.inr ⟨rfl, fun z => by have := ((okN_iff hI hn ht hp.1).mp z).1; omega⟩)
  · skip
    refine g_iconst (pc := 19) X dX9_looksLike_19 ?_
    refine g_goto (pc := 20) X 24 dX9_looksLike_20 (by decide) ?_
    refine g_istore (pc := 24) (lv' := [(4, _), (3, _), (0, _), (1, _), (2, _)]) X dX9_looksLike_24 (by decide) rfl ?_
    refine g_iconst (pc := 26) X dX9_looksLike_26 ?_
    refine g_istore (pc := 27) (lv' := [(5, _), (4, _), (3, _), (0, _), (1, _), (2, _)]) X dX9_looksLike_27 (by decide) rfl ?_
    have hL29 : ∀ (fu : Nat) (k : Nat) (ki iv : Int), (f (126 + 80 * n)).toNat - k < fu → (ki = (k : Int)) → ((k : Int) ≤ f (126 + 80 * n)) → (iv = 0 ∨ iv = 1) → (LkI f n p (k : Int) iv) → G K 0 0 H 29 [(0, .ref y), (1, .int (J n)), (2, .int (J p)), (3, .int (J (f (126 + 80 * n)))), (4, .int (J iv)), (5, .int (J ki))] [] := by
      intro fu
      induction fu with
      | zero => intro k ki iv hm; exact absurd hm (Nat.not_lt_zero _)
      | succ fu ih29 =>
        intro k ki iv hm he h1 hiv hq9
        subst he
        refine g_iload (pc := 29) (pl := 5) X dX9_looksLike_29 rfl ?_
        refine g_iload_n (pc := 31) (pl := 3) X dX9_looksLike_31 rfl ?_
        refine g_icmp_ge (pc := 32) X 76 dX9_looksLike_32 (by decide) (by omega) (by omega) (fun c32 => ?_) (fun c32 => ?_)
        · skip
          refine g_iload (pc := 76) (pl := 4) X dX9_looksLike_76 rfl ?_
          refine g_zret (pc := 78) X R hH (by first | exact Or.inl rfl | exact Or.inr rfl | omega) dX9_looksLike_78 ?_
          refine ⟨rfl, ?_⟩
          rcases hq9 with z | z
          · rw [z.1]; first | exact if_pos ((okN_iff hI hn ht hp.1).mpr ⟨z.2.1, fun i i0 i1 => z.2.2 i i0 (by omega)⟩) | (exfalso; have := z.1; omega)
          · rw [z.1]; exact if_neg z.2
        · skip
          refine g_iload (pc := 35) (pl := 4) X dX9_looksLike_35 rfl ?_
          refine g_if_eq (pc := 37) X 76 dX9_looksLike_37 (by decide) (by omega) (fun c37 => ?_) (fun c37 => ?_)
          · skip
            refine g_iload (pc := 76) (pl := 4) X dX9_looksLike_76 rfl ?_
            refine g_zret (pc := 78) X R hH (by first | exact Or.inl rfl | exact Or.inr rfl | omega) dX9_looksLike_78 ?_
            refine ⟨rfl, ?_⟩
            rcases hq9 with z | z
            · rw [z.1]; first | exact if_pos ((okN_iff hI hn ht hp.1).mpr ⟨z.2.1, fun i i0 i1 => z.2.2 i i0 (by omega)⟩) | (exfalso; have := z.1; omega)
            · rw [z.1]; exact if_neg z.2
          · skip
            refine g_aload_n (pc := 40) (pl := 0) X dX9_looksLike_40 rfl ?_
            refine g_getf (pc := 41) X zF_X9_looksLike_7 hO rfl dX9_looksLike_41 ?_
            refine g_iconst (pc := 44) X dX9_looksLike_44 ?_
            refine g_iload_n (pc := 45) (pl := 2) X dX9_looksLike_45 rfl ?_
            refine g_iadd (pc := 46) X dX9_looksLike_46 ?_
            refine g_iload (pc := 47) (pl := 5) X dX9_looksLike_47 rfl ?_
            refine g_iadd (pc := 49) X dX9_looksLike_49 ?_
            refine g_iaload (pc := 50) X hNw (by omega) (by omega) (by omega) dX9_looksLike_50 ?_
            refine g_aload_n (pc := 51) (pl := 0) X dX9_looksLike_51 rfl ?_
            refine g_iload_n (pc := 52) (pl := 1) X dX9_looksLike_52 rfl ?_
            refine g_iconst (pc := 53) X dX9_looksLike_53 ?_
            refine g_iload (pc := 54) (pl := 5) X dX9_looksLike_54 rfl ?_
            refine g_iadd (pc := 56) X dX9_looksLike_56 ?_
            have hw := hv.2.2.2.2.2.2.1 (k : Int) (by omega) (by omega)
            have hlt : p + f (126 + 80 * n) ≤ f 0 := by rcases hq9 with z | z; exact z.2.1; exact absurd z.1 c37
            have hle := hI.let (p + (k : Int)) (by omega) (by omega)
            have hle2 : f (5 + p + (k : Int)) = f (5 + (p + (k : Int))) := congrArg f (by omega)
            refine gVi (pc := 57) (n2 := 0) (k2 := 0) X cs_X9_looksLike_45 (c_X9_of0 (zl K) D base y kp pd at' od fi la pc f n (2 + (k : Int)) hq (by omega) (by omega)) rfl hO (by omega) ⟨hO, hNw⟩ rfl ⟨Nat.le_of_ble_eq_true rfl, Nat.le_of_ble_eq_true rfl⟩ dX9_looksLike_57 (Nat.le_of_ble_eq_true rfl) rfl rfl (fun v57 H1 hp57 hs57 => ?_)
            obtain ⟨rfl, rfl⟩ := hp57
            rw [show f (125 + 80 * n + (2 + (k : Int))) = f (127 + 80 * n + (k : Int)) from congrArg f (by omega)]
            refine g_icmp_ne (pc := 60) X 67 dX9_looksLike_60 (by decide) (by rw [hle2]; have h9 : 0 ≤ f (5 + (p + (k : Int))) ∧ f (5 + (p + (k : Int))) ≤ 25 := hle; omega) (by omega) (fun c60 => ?_) (fun c60 => ?_)
            · skip
              refine g_iconst (pc := 67) X dX9_looksLike_67 ?_
              refine g_istore (pc := 68) (lv' := [(4, _), (0, _), (1, _), (2, _), (3, _), (5, _)]) X dX9_looksLike_68 (by decide) rfl ?_
              refine g_iinc (pc := 70) (pl := 5) (x := (k : Int)) (lv' := [(5, _), (4, _), (0, _), (1, _), (2, _), (3, _)]) X dX9_looksLike_70 rfl (by decide) rfl ?_
              refine g_goto (pc := 73) X 29 dX9_looksLike_73 (by decide) ?_
              refine G.pick [2, 3, 4, 5, 1, 0] (lv' := [(0, _), (1, _), (2, _), (3, _), (4, _), (5, _)]) rfl ?_
              rcases hq9 with z | z
              rotate_left
              exact absurd z.1 c37
              obtain ⟨z1, z2, z3⟩ := z
              exact ih29 (k + 1) _ _ (by omega) (by omega) (by omega) (by omega) (Or.inr ⟨rfl, fun w => c60 (hle2.trans (((okN_iff hI hn ht hp.1).mp w).2 (k : Int) (by omega) (by omega)))⟩)
            · skip
              refine g_iconst (pc := 63) X dX9_looksLike_63 ?_
              refine g_goto (pc := 64) X 68 dX9_looksLike_64 (by decide) ?_
              refine g_istore (pc := 68) (lv' := [(4, _), (0, _), (1, _), (2, _), (3, _), (5, _)]) X dX9_looksLike_68 (by decide) rfl ?_
              refine g_iinc (pc := 70) (pl := 5) (x := (k : Int)) (lv' := [(5, _), (4, _), (0, _), (1, _), (2, _), (3, _)]) X dX9_looksLike_70 rfl (by decide) rfl ?_
              refine g_goto (pc := 73) X 29 dX9_looksLike_73 (by decide) ?_
              refine G.pick [2, 3, 4, 5, 1, 0] (lv' := [(0, _), (1, _), (2, _), (3, _), (4, _), (5, _)]) rfl ?_
              rcases hq9 with z | z
              rotate_left
              exact absurd z.1 c37
              obtain ⟨z1, z2, z3⟩ := z
              exact ih29 (k + 1) _ _ (by omega) (by omega) (by omega) (by omega) (Or.inl ⟨rfl, z2, fun i i0 i1 => by by_cases c : i = (k : Int); (rw [c, ← hle2]; exact c60); (exact z3 i i0 (by omega))⟩)
    refine G.pick [3, 4, 5, 2, 1, 0] (lv' := [(0, _), (1, _), (2, _), (3, _), (4, _), (5, _)]) rfl ?_
    exact hL29 _ 0 _ _ (Nat.lt_succ_self _) rfl (by omega) (by omega) (Or.inl ⟨rfl, by omega, fun i i0 i1 => by omega⟩)

abbrev rm_X9_likeness : Room := { frames := 1, cells := 0, slots := 0, locals := 22 }
theorem cs_X9_likeness_45 : zCV RX9 wsX9_likeness 45 9 yX9_of0 wsX9_of0 cX9_of0 3 (some .int) rm_X9_likeness rm_X9_of0 2 := ⟨_, _, gX9_likeness_X9_of0, rfl, ⟨by decide +kernel, by decide +kernel, by decide +kernel⟩, ⟨Nat.le_of_ble_eq_true rfl, Nat.le_of_ble_eq_true rfl⟩, rfl, rfl⟩
theorem zF_X9_likeness_7 : zF RX9 wsX9_likeness 9 0 7 := ⟨RX9, TX9, 17, rfl, by decide +kernel, by decide, by decide +kernel⟩
set_option maxRecDepth 100000 in
theorem c_X9_likeness (l : Launch) (D : zD) (base : Nat) (y : Nat) (kp pd at' od fi la pc : Int) (f : Int → Int) (n p : Int) (hq : base ≤ y) (hI : PInv f) (hn : 0 ≤ n ∧ n < f 1) (ht : f (125 + 80 * n) = -6) (hp : 0 ≤ p ∧ p + f (126 + 80 * n) ≤ f 0) : Ct l yX9_likeness wsX9_likeness rm_X9_likeness D base [.ref y, .int (J n), .int (J p)] (fun H => MoO D y kp pd at' od fi la pc H ∧ NwAt D y f H) (PI (fun H v H1 => H = H1 ∧ lkN f n p = v)) := by
  refine Ct.of (own := RX9) (cc := cX9_likeness) (maxL := 6) (by decide +kernel) rfl (Nat.le_of_ble_eq_true rfl) rfl ?_
  intro K H X R hH hnm hP
  show G K 0 0 H 0 [(0, .ref y), (1, .int (J n)), (2, .int (J p))] []
  obtain ⟨hO, hNw⟩ := hP
  have hnum := hI.nums
  have hv := hI.nt hn.1 hn.2 ht
  refine g_iconst (pc := 0) X dX9_likeness_0 ?_
  refine g_istore_n (pc := 1) (lv' := [(3, _), (0, _), (1, _), (2, _)]) X dX9_likeness_1 (by decide) rfl ?_
  refine g_iconst (pc := 2) X dX9_likeness_2 ?_
  refine g_istore (pc := 3) (lv' := [(4, _), (3, _), (0, _), (1, _), (2, _)]) X dX9_likeness_3 (by decide) rfl ?_
  refine g_iload_n (pc := 5) (pl := 4) X dX9_likeness_5 rfl ?_
  refine g_aload_n (pc := 6) (pl := 2) X dX9_likeness_6 rfl ?_
  refine g_iload_n (pc := 7) (pl := 3) X dX9_likeness_7 rfl ?_
  refine g_iconst (pc := 8) X dX9_likeness_8 ?_
  refine gVi (pc := 9) (n2 := 0) (k2 := 0) X cs_X9_likeness_45 (c_X9_of0 (zl K) D base y kp pd at' od fi la pc f n 1 hq (by omega) (by omega)) rfl hO (by omega) ⟨hO, hNw⟩ rfl ⟨Nat.le_of_ble_eq_true rfl, Nat.le_of_ble_eq_true rfl⟩ dX9_likeness_9 (Nat.le_of_ble_eq_true rfl) rfl rfl (fun v9 H1 hp9 hs9 => ?_)
  obtain ⟨rfl, rfl⟩ := hp9
  rw [show f (125 + 80 * n + 1) = f (126 + 80 * n) from congrArg f (by omega)]
  refine g_iadd (pc := 12) X dX9_likeness_12 ?_
  refine g_istore (pc := 13) (lv' := [(5, _), (4, _), (3, _), (0, _), (1, _), (2, _)]) X dX9_likeness_13 (by decide) rfl ?_
  have hL15 : ∀ (fu : Nat) (k : Nat) (ki : Int), 9 - k < fu → (ki = (k : Int)) → ((k : Int) ≤ f (187 + 80 * n)) → (∀ i : Int, 0 ≤ i → i < (k : Int) → itm (f 0) (LT f) (p - 1 + i * -1) = f (188 + 80 * n + i)) → G K 0 0 H 15 [(0, .ref y), (1, .int (J n)), (2, .int (J p)), (3, .int (J ki)), (4, .int (J 0)), (5, .int (J (p + f (126 + 80 * n))))] [] := by
    intro fu
    induction fu with
    | zero => intro k ki hm; exact absurd hm (Nat.not_lt_zero _)
    | succ fu ih15 =>
      intro k ki hm he h1 h2
      subst he
      refine g_iload_n (pc := 15) (pl := 3) X dX9_likeness_15 rfl ?_
      refine g_aload_n (pc := 16) (pl := 0) X dX9_likeness_16 rfl ?_
      refine g_iload_n (pc := 17) (pl := 1) X dX9_likeness_17 rfl ?_
      refine g_bipush (pc := 18) X dX9_likeness_18 (by decide +kernel) ?_
      refine gVi (pc := 20) (n2 := 0) (k2 := 0) X cs_X9_likeness_45 (c_X9_of0 (zl K) D base y kp pd at' od fi la pc f n 62 hq (by omega) (by omega)) rfl hO (by omega) ⟨hO, hNw⟩ rfl ⟨Nat.le_of_ble_eq_true rfl, Nat.le_of_ble_eq_true rfl⟩ dX9_likeness_20 (Nat.le_of_ble_eq_true rfl) rfl rfl (fun v20 H1 hp20 hs20 => ?_)
      obtain ⟨rfl, rfl⟩ := hp20
      rw [show f (125 + 80 * n + 62) = f (187 + 80 * n) from congrArg f (by omega)]
      refine g_icmp_ge (pc := 23) X 64 dX9_likeness_23 (by decide) (by omega) (by omega) (fun c23 => ?_) (fun c23 => ?_)
      · skip
        have ek : (k : Int) = (alk (f 0) (LT f) (p - 1) (-1) (fun j => f (188 + 80 * n + j)) (f (187 + 80 * n))) := alk_of (by omega) (by omega) h2 (Or.inl (by omega))
        have hL64 : ∀ (fu : Nat) (j : Nat) (ji : Int), 9 - j < fu → (ji = (j : Int)) → ((j : Int) ≤ f (196 + 80 * n)) → (∀ i : Int, 0 ≤ i → i < (j : Int) → itm (f 0) (LT f) (p + f (126 + 80 * n) + i * 1) = f (197 + 80 * n + i)) → G K 0 0 H 64 [(0, .ref y), (1, .int (J n)), (2, .int (J p)), (3, .int (J (k : Int))), (4, .int (J ji)), (5, .int (J (p + f (126 + 80 * n))))] [] := by
          intro fu
          induction fu with
          | zero => intro j ji hm; exact absurd hm (Nat.not_lt_zero _)
          | succ fu ih64 =>
            intro j ji hm he h3 h4
            subst he
            refine g_iload (pc := 64) (pl := 4) X dX9_likeness_64 rfl ?_
            refine g_aload_n (pc := 66) (pl := 0) X dX9_likeness_66 rfl ?_
            refine g_iload_n (pc := 67) (pl := 1) X dX9_likeness_67 rfl ?_
            refine g_bipush (pc := 68) X dX9_likeness_68 (by decide +kernel) ?_
            refine gVi (pc := 70) (n2 := 0) (k2 := 0) X cs_X9_likeness_45 (c_X9_of0 (zl K) D base y kp pd at' od fi la pc f n 71 hq (by omega) (by omega)) rfl hO (by omega) ⟨hO, hNw⟩ rfl ⟨Nat.le_of_ble_eq_true rfl, Nat.le_of_ble_eq_true rfl⟩ dX9_likeness_70 (Nat.le_of_ble_eq_true rfl) rfl rfl (fun v70 H1 hp70 hs70 => ?_)
            obtain ⟨rfl, rfl⟩ := hp70
            rw [show f (125 + 80 * n + 71) = f (196 + 80 * n) from congrArg f (by omega)]
            refine g_icmp_ge (pc := 73) X 121 dX9_likeness_73 (by decide) (by omega) (by omega) (fun c73 => ?_) (fun c73 => ?_)
            · skip
              have ek2 : (j : Int) = (alk (f 0) (LT f) (p + f (126 + 80 * n)) 1 (fun j => f (197 + 80 * n + j)) (f (196 + 80 * n))) := alk_of (by omega) (by omega) h4 (Or.inl (by omega))
              refine g_iload_n (pc := 121) (pl := 3) X dX9_likeness_121 rfl ?_
              refine g_iload (pc := 122) (pl := 4) X dX9_likeness_122 rfl ?_
              refine g_iadd (pc := 124) X dX9_likeness_124 ?_
              refine g_iret (pc := 125) X R hH dX9_likeness_125 ?_
              refine ⟨rfl, ?_⟩
              show (alk (f 0) (LT f) (p - 1) (-1) (fun j => f (188 + 80 * n + j)) (f (187 + 80 * n))) + (alk (f 0) (LT f) (p + f (126 + 80 * n)) 1 (fun j => f (197 + 80 * n + j)) (f (196 + 80 * n))) = _
              omega
            · skip
              refine g_iload (pc := 76) (pl := 5) X dX9_likeness_76 rfl ?_
              refine g_iload (pc := 78) (pl := 4) X dX9_likeness_78 rfl ?_
              refine g_iadd (pc := 80) X dX9_likeness_80 ?_
              refine g_aload_n (pc := 81) (pl := 0) X dX9_likeness_81 rfl ?_
              refine g_getf (pc := 82) X zF_X9_likeness_7 hO rfl dX9_likeness_82 ?_
              refine g_iconst (pc := 85) X dX9_likeness_85 ?_
              refine g_iaload (pc := 86) X hNw (by omega) (by omega) (by omega) dX9_likeness_86 ?_
              refine g_icmp_ge (pc := 87) X 121 dX9_likeness_87 (by decide) (by omega) (by omega) (fun c87 => ?_) (fun c87 => ?_)
              · skip
                have hw := hv.2.2.2.2.2.2.2.2 (j : Int) (by omega) (by omega)
                have ei2 : itm (f 0) (LT f) (p + f (126 + 80 * n) + (j : Int) * 1) = -1 := if_neg (by omega)
                have ek2 : (j : Int) = (alk (f 0) (LT f) (p + f (126 + 80 * n)) 1 (fun j => f (197 + 80 * n + j)) (f (196 + 80 * n))) := alk_of (by omega) (by omega) h4 (Or.inr (by rw [ei2]; show ¬ (-1 : Int) = f (197 + 80 * n + (j : Int)); omega))
                refine g_iload_n (pc := 121) (pl := 3) X dX9_likeness_121 rfl ?_
                refine g_iload (pc := 122) (pl := 4) X dX9_likeness_122 rfl ?_
                refine g_iadd (pc := 124) X dX9_likeness_124 ?_
                refine g_iret (pc := 125) X R hH dX9_likeness_125 ?_
                refine ⟨rfl, ?_⟩
                show (alk (f 0) (LT f) (p - 1) (-1) (fun j => f (188 + 80 * n + j)) (f (187 + 80 * n))) + (alk (f 0) (LT f) (p + f (126 + 80 * n)) 1 (fun j => f (197 + 80 * n + j)) (f (196 + 80 * n))) = _
                omega
              · skip
                refine g_aload_n (pc := 90) (pl := 0) X dX9_likeness_90 rfl ?_
                refine g_getf (pc := 91) X zF_X9_likeness_7 hO rfl dX9_likeness_91 ?_
                refine g_iconst (pc := 94) X dX9_likeness_94 ?_
                refine g_iload (pc := 95) (pl := 5) X dX9_likeness_95 rfl ?_
                refine g_iadd (pc := 97) X dX9_likeness_97 ?_
                refine g_iload (pc := 98) (pl := 4) X dX9_likeness_98 rfl ?_
                refine g_iadd (pc := 100) X dX9_likeness_100 ?_
                refine g_iaload (pc := 101) X hNw (by omega) (by omega) (by omega) dX9_likeness_101 ?_
                refine g_aload_n (pc := 102) (pl := 0) X dX9_likeness_102 rfl ?_
                refine g_iload_n (pc := 103) (pl := 1) X dX9_likeness_103 rfl ?_
                refine g_bipush (pc := 104) X dX9_likeness_104 (by decide +kernel) ?_
                refine g_iload (pc := 106) (pl := 4) X dX9_likeness_106 rfl ?_
                refine g_iadd (pc := 108) X dX9_likeness_108 ?_
                refine gVi (pc := 109) (n2 := 0) (k2 := 0) X cs_X9_likeness_45 (c_X9_of0 (zl K) D base y kp pd at' od fi la pc f n (72 + (j : Int)) hq (by omega) (by omega)) rfl hO (by omega) ⟨hO, hNw⟩ rfl ⟨Nat.le_of_ble_eq_true rfl, Nat.le_of_ble_eq_true rfl⟩ dX9_likeness_109 (Nat.le_of_ble_eq_true rfl) rfl rfl (fun v109 H1 hp109 hs109 => ?_)
                obtain ⟨rfl, rfl⟩ := hp109
                rw [show f (125 + 80 * n + (72 + (j : Int))) = f (197 + 80 * n + (j : Int)) from congrArg f (by omega)]
                have hw := hv.2.2.2.2.2.2.2.2 (j : Int) (by omega) (by omega)
                have hle := hI.let (p + f (126 + 80 * n) + (j : Int)) (by omega) (by omega)
                have hle2 : f (5 + (p + f (126 + 80 * n)) + (j : Int)) = f (5 + (p + f (126 + 80 * n) + (j : Int))) := congrArg f (by omega)
                have hle3 : 0 ≤ f (5 + (p + f (126 + 80 * n) + (j : Int))) ∧ f (5 + (p + f (126 + 80 * n) + (j : Int))) ≤ 25 := hle
                have ei2 : itm (f 0) (LT f) (p + f (126 + 80 * n) + (j : Int) * 1) = f (5 + (p + f (126 + 80 * n)) + (j : Int)) := (if_pos (by omega)).trans (congrArg f (by omega))
                refine g_icmp_ne (pc := 112) X 121 dX9_likeness_112 (by decide) (by rw [hle2]; omega) (by omega) (fun c112 => ?_) (fun c112 => ?_)
                · skip
                  have ek2 : (j : Int) = (alk (f 0) (LT f) (p + f (126 + 80 * n)) 1 (fun j => f (197 + 80 * n + j)) (f (196 + 80 * n))) := alk_of (by omega) (by omega) h4 (Or.inr (by rw [ei2]; exact c112))
                  refine g_iload_n (pc := 121) (pl := 3) X dX9_likeness_121 rfl ?_
                  refine g_iload (pc := 122) (pl := 4) X dX9_likeness_122 rfl ?_
                  refine g_iadd (pc := 124) X dX9_likeness_124 ?_
                  refine g_iret (pc := 125) X R hH dX9_likeness_125 ?_
                  refine ⟨rfl, ?_⟩
                  show (alk (f 0) (LT f) (p - 1) (-1) (fun j => f (188 + 80 * n + j)) (f (187 + 80 * n))) + (alk (f 0) (LT f) (p + f (126 + 80 * n)) 1 (fun j => f (197 + 80 * n + j)) (f (196 + 80 * n))) = _
                  omega
                · skip
                  refine g_iinc (pc := 115) (pl := 4) (x := (j : Int)) (lv' := [(4, _), (0, _), (1, _), (2, _), (3, _), (5, _)]) X dX9_likeness_115 rfl (by decide) rfl ?_
                  refine g_goto (pc := 118) X 64 dX9_likeness_118 (by decide) ?_
                  refine G.pick [1, 2, 3, 4, 0, 5] (lv' := [(0, _), (1, _), (2, _), (3, _), (4, _), (5, _)]) rfl ?_
                  exact ih64 (j + 1) _ (by omega) (by omega) (by omega) (fun i i0 i1 => by by_cases c : i = (j : Int); (rw [c, ei2]; exact c112); (exact h4 i i0 (by omega)))
        refine G.pick [0, 1, 2, 3, 4, 5] (lv' := [(0, _), (1, _), (2, _), (3, _), (4, _), (5, _)]) rfl ?_
        exact hL64 _ 0 _ (Nat.lt_succ_self _) rfl (by omega) (fun i i0 i1 => by omega)
      · skip
        refine g_iload_n (pc := 26) (pl := 2) X dX9_likeness_26 rfl ?_
        refine g_iconst (pc := 27) X dX9_likeness_27 ?_
        refine g_isub (pc := 28) X dX9_likeness_28 ?_
        refine g_iload_n (pc := 29) (pl := 3) X dX9_likeness_29 rfl ?_
        refine g_isub (pc := 30) X dX9_likeness_30 ?_
        refine g_if_lt (pc := 31) X 64 dX9_likeness_31 (by decide) (by omega) (fun c31 => ?_) (fun c31 => ?_)
        · skip
          have hw := hv.2.2.2.2.2.2.2.1 (k : Int) (by omega) (by omega)
          have ei : itm (f 0) (LT f) (p - 1 + (k : Int) * -1) = -1 := if_neg (by omega)
          have ek : (k : Int) = (alk (f 0) (LT f) (p - 1) (-1) (fun j => f (188 + 80 * n + j)) (f (187 + 80 * n))) := alk_of (by omega) (by omega) h2 (Or.inr (by rw [ei]; show ¬ (-1 : Int) = f (188 + 80 * n + (k : Int)); omega))
          have hL64 : ∀ (fu : Nat) (j : Nat) (ji : Int), 9 - j < fu → (ji = (j : Int)) → ((j : Int) ≤ f (196 + 80 * n)) → (∀ i : Int, 0 ≤ i → i < (j : Int) → itm (f 0) (LT f) (p + f (126 + 80 * n) + i * 1) = f (197 + 80 * n + i)) → G K 0 0 H 64 [(0, .ref y), (1, .int (J n)), (2, .int (J p)), (3, .int (J (k : Int))), (4, .int (J ji)), (5, .int (J (p + f (126 + 80 * n))))] [] := by
            intro fu
            induction fu with
            | zero => intro j ji hm; exact absurd hm (Nat.not_lt_zero _)
            | succ fu ih64 =>
              intro j ji hm he h3 h4
              subst he
              refine g_iload (pc := 64) (pl := 4) X dX9_likeness_64 rfl ?_
              refine g_aload_n (pc := 66) (pl := 0) X dX9_likeness_66 rfl ?_
              refine g_iload_n (pc := 67) (pl := 1) X dX9_likeness_67 rfl ?_
              refine g_bipush (pc := 68) X dX9_likeness_68 (by decide +kernel) ?_
              refine gVi (pc := 70) (n2 := 0) (k2 := 0) X cs_X9_likeness_45 (c_X9_of0 (zl K) D base y kp pd at' od fi la pc f n 71 hq (by omega) (by omega)) rfl hO (by omega) ⟨hO, hNw⟩ rfl ⟨Nat.le_of_ble_eq_true rfl, Nat.le_of_ble_eq_true rfl⟩ dX9_likeness_70 (Nat.le_of_ble_eq_true rfl) rfl rfl (fun v70 H1 hp70 hs70 => ?_)
              obtain ⟨rfl, rfl⟩ := hp70
              rw [show f (125 + 80 * n + 71) = f (196 + 80 * n) from congrArg f (by omega)]
              refine g_icmp_ge (pc := 73) X 121 dX9_likeness_73 (by decide) (by omega) (by omega) (fun c73 => ?_) (fun c73 => ?_)
              · skip
                have ek2 : (j : Int) = (alk (f 0) (LT f) (p + f (126 + 80 * n)) 1 (fun j => f (197 + 80 * n + j)) (f (196 + 80 * n))) := alk_of (by omega) (by omega) h4 (Or.inl (by omega))
                refine g_iload_n (pc := 121) (pl := 3) X dX9_likeness_121 rfl ?_
                refine g_iload (pc := 122) (pl := 4) X dX9_likeness_122 rfl ?_
                refine g_iadd (pc := 124) X dX9_likeness_124 ?_
                refine g_iret (pc := 125) X R hH dX9_likeness_125 ?_
                refine ⟨rfl, ?_⟩
                show (alk (f 0) (LT f) (p - 1) (-1) (fun j => f (188 + 80 * n + j)) (f (187 + 80 * n))) + (alk (f 0) (LT f) (p + f (126 + 80 * n)) 1 (fun j => f (197 + 80 * n + j)) (f (196 + 80 * n))) = _
                omega
              · skip
                refine g_iload (pc := 76) (pl := 5) X dX9_likeness_76 rfl ?_
                refine g_iload (pc := 78) (pl := 4) X dX9_likeness_78 rfl ?_
                refine g_iadd (pc := 80) X dX9_likeness_80 ?_
                refine g_aload_n (pc := 81) (pl := 0) X dX9_likeness_81 rfl ?_
                refine g_getf (pc := 82) X zF_X9_likeness_7 hO rfl dX9_likeness_82 ?_
                refine g_iconst (pc := 85) X dX9_likeness_85 ?_
                refine g_iaload (pc := 86) X hNw (by omega) (by omega) (by omega) dX9_likeness_86 ?_
                refine g_icmp_ge (pc := 87) X 121 dX9_likeness_87 (by decide) (by omega) (by omega) (fun c87 => ?_) (fun c87 => ?_)
                · skip
                  have hw := hv.2.2.2.2.2.2.2.2 (j : Int) (by omega) (by omega)
                  have ei2 : itm (f 0) (LT f) (p + f (126 + 80 * n) + (j : Int) * 1) = -1 := if_neg (by omega)
                  have ek2 : (j : Int) = (alk (f 0) (LT f) (p + f (126 + 80 * n)) 1 (fun j => f (197 + 80 * n + j)) (f (196 + 80 * n))) := alk_of (by omega) (by omega) h4 (Or.inr (by rw [ei2]; show ¬ (-1 : Int) = f (197 + 80 * n + (j : Int)); omega))
                  refine g_iload_n (pc := 121) (pl := 3) X dX9_likeness_121 rfl ?_
                  refine g_iload (pc := 122) (pl := 4) X dX9_likeness_122 rfl ?_
                  refine g_iadd (pc := 124) X dX9_likeness_124 ?_
                  refine g_iret (pc := 125) X R hH dX9_likeness_125 ?_
                  refine ⟨rfl, ?_⟩
                  show (alk (f 0) (LT f) (p - 1) (-1) (fun j => f (188 + 80 * n + j)) (f (187 + 80 * n))) + (alk (f 0) (LT f) (p + f (126 + 80 * n)) 1 (fun j => f (197 + 80 * n + j)) (f (196 + 80 * n))) = _
                  omega
                · skip
                  refine g_aload_n (pc := 90) (pl := 0) X dX9_likeness_90 rfl ?_
                  refine g_getf (pc := 91) X zF_X9_likeness_7 hO rfl dX9_likeness_91 ?_
                  refine g_iconst (pc := 94) X dX9_likeness_94 ?_
                  refine g_iload (pc := 95) (pl := 5) X dX9_likeness_95 rfl ?_
                  refine g_iadd (pc := 97) X dX9_likeness_97 ?_
                  refine g_iload (pc := 98) (pl := 4) X dX9_likeness_98 rfl ?_
                  refine g_iadd (pc := 100) X dX9_likeness_100 ?_
                  refine g_iaload (pc := 101) X hNw (by omega) (by omega) (by omega) dX9_likeness_101 ?_
                  refine g_aload_n (pc := 102) (pl := 0) X dX9_likeness_102 rfl ?_
                  refine g_iload_n (pc := 103) (pl := 1) X dX9_likeness_103 rfl ?_
                  refine g_bipush (pc := 104) X dX9_likeness_104 (by decide +kernel) ?_
                  refine g_iload (pc := 106) (pl := 4) X dX9_likeness_106 rfl ?_
                  refine g_iadd (pc := 108) X dX9_likeness_108 ?_
                  refine gVi (pc := 109) (n2 := 0) (k2 := 0) X cs_X9_likeness_45 (c_X9_of0 (zl K) D base y kp pd at' od fi la pc f n (72 + (j : Int)) hq (by omega) (by omega)) rfl hO (by omega) ⟨hO, hNw⟩ rfl ⟨Nat.le_of_ble_eq_true rfl, Nat.le_of_ble_eq_true rfl⟩ dX9_likeness_109 (Nat.le_of_ble_eq_true rfl) rfl rfl (fun v109 H1 hp109 hs109 => ?_)
                  obtain ⟨rfl, rfl⟩ := hp109
                  rw [show f (125 + 80 * n + (72 + (j : Int))) = f (197 + 80 * n + (j : Int)) from congrArg f (by omega)]
                  have hw := hv.2.2.2.2.2.2.2.2 (j : Int) (by omega) (by omega)
                  have hle := hI.let (p + f (126 + 80 * n) + (j : Int)) (by omega) (by omega)
                  have hle2 : f (5 + (p + f (126 + 80 * n)) + (j : Int)) = f (5 + (p + f (126 + 80 * n) + (j : Int))) := congrArg f (by omega)
                  have hle3 : 0 ≤ f (5 + (p + f (126 + 80 * n) + (j : Int))) ∧ f (5 + (p + f (126 + 80 * n) + (j : Int))) ≤ 25 := hle
                  have ei2 : itm (f 0) (LT f) (p + f (126 + 80 * n) + (j : Int) * 1) = f (5 + (p + f (126 + 80 * n)) + (j : Int)) := (if_pos (by omega)).trans (congrArg f (by omega))
                  refine g_icmp_ne (pc := 112) X 121 dX9_likeness_112 (by decide) (by rw [hle2]; omega) (by omega) (fun c112 => ?_) (fun c112 => ?_)
                  · skip
                    have ek2 : (j : Int) = (alk (f 0) (LT f) (p + f (126 + 80 * n)) 1 (fun j => f (197 + 80 * n + j)) (f (196 + 80 * n))) := alk_of (by omega) (by omega) h4 (Or.inr (by rw [ei2]; exact c112))
                    refine g_iload_n (pc := 121) (pl := 3) X dX9_likeness_121 rfl ?_
                    refine g_iload (pc := 122) (pl := 4) X dX9_likeness_122 rfl ?_
                    refine g_iadd (pc := 124) X dX9_likeness_124 ?_
                    refine g_iret (pc := 125) X R hH dX9_likeness_125 ?_
                    refine ⟨rfl, ?_⟩
                    show (alk (f 0) (LT f) (p - 1) (-1) (fun j => f (188 + 80 * n + j)) (f (187 + 80 * n))) + (alk (f 0) (LT f) (p + f (126 + 80 * n)) 1 (fun j => f (197 + 80 * n + j)) (f (196 + 80 * n))) = _
                    omega
                  · skip
                    refine g_iinc (pc := 115) (pl := 4) (x := (j : Int)) (lv' := [(4, _), (0, _), (1, _), (2, _), (3, _), (5, _)]) X dX9_likeness_115 rfl (by decide) rfl ?_
                    refine g_goto (pc := 118) X 64 dX9_likeness_118 (by decide) ?_
                    refine G.pick [1, 2, 3, 4, 0, 5] (lv' := [(0, _), (1, _), (2, _), (3, _), (4, _), (5, _)]) rfl ?_
                    exact ih64 (j + 1) _ (by omega) (by omega) (by omega) (fun i i0 i1 => by by_cases c : i = (j : Int); (rw [c, ei2]; exact c112); (exact h4 i i0 (by omega)))
          refine G.pick [0, 1, 2, 3, 4, 5] (lv' := [(0, _), (1, _), (2, _), (3, _), (4, _), (5, _)]) rfl ?_
          exact hL64 _ 0 _ (Nat.lt_succ_self _) rfl (by omega) (fun i i0 i1 => by omega)
        · skip
          refine g_aload_n (pc := 34) (pl := 0) X dX9_likeness_34 rfl ?_
          refine g_getf (pc := 35) X zF_X9_likeness_7 hO rfl dX9_likeness_35 ?_
          refine g_iconst (pc := 38) X dX9_likeness_38 ?_
          refine g_iload_n (pc := 39) (pl := 2) X dX9_likeness_39 rfl ?_
          refine g_iadd (pc := 40) X dX9_likeness_40 ?_
          refine g_iconst (pc := 41) X dX9_likeness_41 ?_
          refine g_isub (pc := 42) X dX9_likeness_42 ?_
          refine g_iload_n (pc := 43) (pl := 3) X dX9_likeness_43 rfl ?_
          refine g_isub (pc := 44) X dX9_likeness_44 ?_
          refine g_iaload (pc := 45) X hNw (by omega) (by omega) (by omega) dX9_likeness_45 ?_
          refine g_aload_n (pc := 46) (pl := 0) X dX9_likeness_46 rfl ?_
          refine g_iload_n (pc := 47) (pl := 1) X dX9_likeness_47 rfl ?_
          refine g_bipush (pc := 48) X dX9_likeness_48 (by decide +kernel) ?_
          refine g_iload_n (pc := 50) (pl := 3) X dX9_likeness_50 rfl ?_
          refine g_iadd (pc := 51) X dX9_likeness_51 ?_
          refine gVi (pc := 52) (n2 := 0) (k2 := 0) X cs_X9_likeness_45 (c_X9_of0 (zl K) D base y kp pd at' od fi la pc f n (63 + (k : Int)) hq (by omega) (by omega)) rfl hO (by omega) ⟨hO, hNw⟩ rfl ⟨Nat.le_of_ble_eq_true rfl, Nat.le_of_ble_eq_true rfl⟩ dX9_likeness_52 (Nat.le_of_ble_eq_true rfl) rfl rfl (fun v52 H1 hp52 hs52 => ?_)
          obtain ⟨rfl, rfl⟩ := hp52
          rw [show f (125 + 80 * n + (63 + (k : Int))) = f (188 + 80 * n + (k : Int)) from congrArg f (by omega)]
          have hw := hv.2.2.2.2.2.2.2.1 (k : Int) (by omega) (by omega)
          have hle := hI.let (p - 1 - (k : Int)) (by omega) (by omega)
          have hle2 : f (5 + p - 1 - (k : Int)) = f (5 + (p - 1 - (k : Int))) := congrArg f (by omega)
          have hle3 : 0 ≤ f (5 + (p - 1 - (k : Int))) ∧ f (5 + (p - 1 - (k : Int))) ≤ 25 := hle
          have ei : itm (f 0) (LT f) (p - 1 + (k : Int) * -1) = f (5 + p - 1 - (k : Int)) := (if_pos (by omega)).trans (congrArg f (by omega))
          refine g_icmp_ne (pc := 55) X 64 dX9_likeness_55 (by decide) (by rw [hle2]; omega) (by omega) (fun c55 => ?_) (fun c55 => ?_)
          · skip
            have ek : (k : Int) = (alk (f 0) (LT f) (p - 1) (-1) (fun j => f (188 + 80 * n + j)) (f (187 + 80 * n))) := alk_of (by omega) (by omega) h2 (Or.inr (by rw [ei]; exact c55))
            have hL64 : ∀ (fu : Nat) (j : Nat) (ji : Int), 9 - j < fu → (ji = (j : Int)) → ((j : Int) ≤ f (196 + 80 * n)) → (∀ i : Int, 0 ≤ i → i < (j : Int) → itm (f 0) (LT f) (p + f (126 + 80 * n) + i * 1) = f (197 + 80 * n + i)) → G K 0 0 H 64 [(0, .ref y), (1, .int (J n)), (2, .int (J p)), (3, .int (J (k : Int))), (4, .int (J ji)), (5, .int (J (p + f (126 + 80 * n))))] [] := by
              intro fu
              induction fu with
              | zero => intro j ji hm; exact absurd hm (Nat.not_lt_zero _)
              | succ fu ih64 =>
                intro j ji hm he h3 h4
                subst he
                refine g_iload (pc := 64) (pl := 4) X dX9_likeness_64 rfl ?_
                refine g_aload_n (pc := 66) (pl := 0) X dX9_likeness_66 rfl ?_
                refine g_iload_n (pc := 67) (pl := 1) X dX9_likeness_67 rfl ?_
                refine g_bipush (pc := 68) X dX9_likeness_68 (by decide +kernel) ?_
                refine gVi (pc := 70) (n2 := 0) (k2 := 0) X cs_X9_likeness_45 (c_X9_of0 (zl K) D base y kp pd at' od fi la pc f n 71 hq (by omega) (by omega)) rfl hO (by omega) ⟨hO, hNw⟩ rfl ⟨Nat.le_of_ble_eq_true rfl, Nat.le_of_ble_eq_true rfl⟩ dX9_likeness_70 (Nat.le_of_ble_eq_true rfl) rfl rfl (fun v70 H1 hp70 hs70 => ?_)
                obtain ⟨rfl, rfl⟩ := hp70
                rw [show f (125 + 80 * n + 71) = f (196 + 80 * n) from congrArg f (by omega)]
                refine g_icmp_ge (pc := 73) X 121 dX9_likeness_73 (by decide) (by omega) (by omega) (fun c73 => ?_) (fun c73 => ?_)
                · skip
                  have ek2 : (j : Int) = (alk (f 0) (LT f) (p + f (126 + 80 * n)) 1 (fun j => f (197 + 80 * n + j)) (f (196 + 80 * n))) := alk_of (by omega) (by omega) h4 (Or.inl (by omega))
                  refine g_iload_n (pc := 121) (pl := 3) X dX9_likeness_121 rfl ?_
                  refine g_iload (pc := 122) (pl := 4) X dX9_likeness_122 rfl ?_
                  refine g_iadd (pc := 124) X dX9_likeness_124 ?_
                  refine g_iret (pc := 125) X R hH dX9_likeness_125 ?_
                  refine ⟨rfl, ?_⟩
                  show (alk (f 0) (LT f) (p - 1) (-1) (fun j => f (188 + 80 * n + j)) (f (187 + 80 * n))) + (alk (f 0) (LT f) (p + f (126 + 80 * n)) 1 (fun j => f (197 + 80 * n + j)) (f (196 + 80 * n))) = _
                  omega
                · skip
                  refine g_iload (pc := 76) (pl := 5) X dX9_likeness_76 rfl ?_
                  refine g_iload (pc := 78) (pl := 4) X dX9_likeness_78 rfl ?_
                  refine g_iadd (pc := 80) X dX9_likeness_80 ?_
                  refine g_aload_n (pc := 81) (pl := 0) X dX9_likeness_81 rfl ?_
                  refine g_getf (pc := 82) X zF_X9_likeness_7 hO rfl dX9_likeness_82 ?_
                  refine g_iconst (pc := 85) X dX9_likeness_85 ?_
                  refine g_iaload (pc := 86) X hNw (by omega) (by omega) (by omega) dX9_likeness_86 ?_
                  refine g_icmp_ge (pc := 87) X 121 dX9_likeness_87 (by decide) (by omega) (by omega) (fun c87 => ?_) (fun c87 => ?_)
                  · skip
                    have hw := hv.2.2.2.2.2.2.2.2 (j : Int) (by omega) (by omega)
                    have ei2 : itm (f 0) (LT f) (p + f (126 + 80 * n) + (j : Int) * 1) = -1 := if_neg (by omega)
                    have ek2 : (j : Int) = (alk (f 0) (LT f) (p + f (126 + 80 * n)) 1 (fun j => f (197 + 80 * n + j)) (f (196 + 80 * n))) := alk_of (by omega) (by omega) h4 (Or.inr (by rw [ei2]; show ¬ (-1 : Int) = f (197 + 80 * n + (j : Int)); omega))
                    refine g_iload_n (pc := 121) (pl := 3) X dX9_likeness_121 rfl ?_
                    refine g_iload (pc := 122) (pl := 4) X dX9_likeness_122 rfl ?_
                    refine g_iadd (pc := 124) X dX9_likeness_124 ?_
                    refine g_iret (pc := 125) X R hH dX9_likeness_125 ?_
                    refine ⟨rfl, ?_⟩
                    show (alk (f 0) (LT f) (p - 1) (-1) (fun j => f (188 + 80 * n + j)) (f (187 + 80 * n))) + (alk (f 0) (LT f) (p + f (126 + 80 * n)) 1 (fun j => f (197 + 80 * n + j)) (f (196 + 80 * n))) = _
                    omega
                  · skip
                    refine g_aload_n (pc := 90) (pl := 0) X dX9_likeness_90 rfl ?_
                    refine g_getf (pc := 91) X zF_X9_likeness_7 hO rfl dX9_likeness_91 ?_
                    refine g_iconst (pc := 94) X dX9_likeness_94 ?_
                    refine g_iload (pc := 95) (pl := 5) X dX9_likeness_95 rfl ?_
                    refine g_iadd (pc := 97) X dX9_likeness_97 ?_
                    refine g_iload (pc := 98) (pl := 4) X dX9_likeness_98 rfl ?_
                    refine g_iadd (pc := 100) X dX9_likeness_100 ?_
                    refine g_iaload (pc := 101) X hNw (by omega) (by omega) (by omega) dX9_likeness_101 ?_
                    refine g_aload_n (pc := 102) (pl := 0) X dX9_likeness_102 rfl ?_
                    refine g_iload_n (pc := 103) (pl := 1) X dX9_likeness_103 rfl ?_
                    refine g_bipush (pc := 104) X dX9_likeness_104 (by decide +kernel) ?_
                    refine g_iload (pc := 106) (pl := 4) X dX9_likeness_106 rfl ?_
                    refine g_iadd (pc := 108) X dX9_likeness_108 ?_
                    refine gVi (pc := 109) (n2 := 0) (k2 := 0) X cs_X9_likeness_45 (c_X9_of0 (zl K) D base y kp pd at' od fi la pc f n (72 + (j : Int)) hq (by omega) (by omega)) rfl hO (by omega) ⟨hO, hNw⟩ rfl ⟨Nat.le_of_ble_eq_true rfl, Nat.le_of_ble_eq_true rfl⟩ dX9_likeness_109 (Nat.le_of_ble_eq_true rfl) rfl rfl (fun v109 H1 hp109 hs109 => ?_)
                    obtain ⟨rfl, rfl⟩ := hp109
                    rw [show f (125 + 80 * n + (72 + (j : Int))) = f (197 + 80 * n + (j : Int)) from congrArg f (by omega)]
                    have hw := hv.2.2.2.2.2.2.2.2 (j : Int) (by omega) (by omega)
                    have hle := hI.let (p + f (126 + 80 * n) + (j : Int)) (by omega) (by omega)
                    have hle2 : f (5 + (p + f (126 + 80 * n)) + (j : Int)) = f (5 + (p + f (126 + 80 * n) + (j : Int))) := congrArg f (by omega)
                    have hle3 : 0 ≤ f (5 + (p + f (126 + 80 * n) + (j : Int))) ∧ f (5 + (p + f (126 + 80 * n) + (j : Int))) ≤ 25 := hle
                    have ei2 : itm (f 0) (LT f) (p + f (126 + 80 * n) + (j : Int) * 1) = f (5 + (p + f (126 + 80 * n)) + (j : Int)) := (if_pos (by omega)).trans (congrArg f (by omega))
                    refine g_icmp_ne (pc := 112) X 121 dX9_likeness_112 (by decide) (by rw [hle2]; omega) (by omega) (fun c112 => ?_) (fun c112 => ?_)
                    · skip
                      have ek2 : (j : Int) = (alk (f 0) (LT f) (p + f (126 + 80 * n)) 1 (fun j => f (197 + 80 * n + j)) (f (196 + 80 * n))) := alk_of (by omega) (by omega) h4 (Or.inr (by rw [ei2]; exact c112))
                      refine g_iload_n (pc := 121) (pl := 3) X dX9_likeness_121 rfl ?_
                      refine g_iload (pc := 122) (pl := 4) X dX9_likeness_122 rfl ?_
                      refine g_iadd (pc := 124) X dX9_likeness_124 ?_
                      refine g_iret (pc := 125) X R hH dX9_likeness_125 ?_
                      refine ⟨rfl, ?_⟩
                      show (alk (f 0) (LT f) (p - 1) (-1) (fun j => f (188 + 80 * n + j)) (f (187 + 80 * n))) + (alk (f 0) (LT f) (p + f (126 + 80 * n)) 1 (fun j => f (197 + 80 * n + j)) (f (196 + 80 * n))) = _
                      omega
                    · skip
                      refine g_iinc (pc := 115) (pl := 4) (x := (j : Int)) (lv' := [(4, _), (0, _), (1, _), (2, _), (3, _), (5, _)]) X dX9_likeness_115 rfl (by decide) rfl ?_
                      refine g_goto (pc := 118) X 64 dX9_likeness_118 (by decide) ?_
                      refine G.pick [1, 2, 3, 4, 0, 5] (lv' := [(0, _), (1, _), (2, _), (3, _), (4, _), (5, _)]) rfl ?_
                      exact ih64 (j + 1) _ (by omega) (by omega) (by omega) (fun i i0 i1 => by by_cases c : i = (j : Int); (rw [c, ei2]; exact c112); (exact h4 i i0 (by omega)))
            refine G.pick [0, 1, 2, 3, 4, 5] (lv' := [(0, _), (1, _), (2, _), (3, _), (4, _), (5, _)]) rfl ?_
            exact hL64 _ 0 _ (Nat.lt_succ_self _) rfl (by omega) (fun i i0 i1 => by omega)
          · skip
            refine g_iinc (pc := 58) (pl := 3) (x := (k : Int)) (lv' := [(3, _), (0, _), (1, _), (2, _), (4, _), (5, _)]) X dX9_likeness_58 rfl (by decide) rfl ?_
            refine g_goto (pc := 61) X 15 dX9_likeness_61 (by decide) ?_
            refine G.pick [1, 2, 3, 0, 4, 5] (lv' := [(0, _), (1, _), (2, _), (3, _), (4, _), (5, _)]) rfl ?_
            exact ih15 (k + 1) _ (by omega) (by omega) (by omega) (fun i i0 i1 => by by_cases c : i = (k : Int); (rw [c, ei]; exact c55); (exact h2 i i0 (by omega)))
  refine G.pick [3, 4, 5, 2, 1, 0] (lv' := [(0, _), (1, _), (2, _), (3, _), (4, _), (5, _)]) rfl ?_
  exact hL15 _ 0 _ (Nat.lt_succ_self _) rfl (by omega) (fun i i0 i1 => by omega)

abbrev rm_X9_possible : Room := { frames := 2, cells := 0, slots := 0, locals := 47 }
theorem zF_X9_possible_7 : zF RX9 wsX9_possible 9 0 7 := ⟨RX9, TX9, 17, rfl, by decide +kernel, by decide, by decide +kernel⟩
theorem cs_X9_possible_155 : zCV RX9 wsX9_possible 155 9 yX9_looksLike wsX9_looksLike cX9_looksLike 6 (some .boolean) rm_X9_possible rm_X9_looksLike 2 := ⟨_, _, gX9_possible_X9_looksLike, rfl, ⟨by decide +kernel, by decide +kernel, by decide +kernel⟩, ⟨Nat.le_of_ble_eq_true rfl, Nat.le_of_ble_eq_true rfl⟩, rfl, rfl⟩
theorem cs_X9_possible_158 : zCV RX9 wsX9_possible 158 9 yX9_likeness wsX9_likeness cX9_likeness 6 (some .int) rm_X9_possible rm_X9_likeness 2 := ⟨_, _, gX9_possible_X9_likeness, rfl, ⟨by decide +kernel, by decide +kernel, by decide +kernel⟩, ⟨Nat.le_of_ble_eq_true rfl, Nat.le_of_ble_eq_true rfl⟩, rfl, rfl⟩
set_option maxRecDepth 100000 in
theorem c_X9_possible (l : Launch) (D : zD) (base : Nat) (y : Nat) (kp pd at' od fi la pc : Int) (f : Int → Int) (n w : Int) (hq : base ≤ y) (hI : PInv f) (hn : 0 ≤ n ∧ n < f 1) (ht : f (125 + 80 * n) = -6) (hw : rg w) : Ct l yX9_possible wsX9_possible rm_X9_possible D base [.ref y, .int (J n), .int (J w)] (fun H => MoO D y kp pd at' od fi la pc H ∧ NwAt D y f H) (PI (fun H v H1 => H = H1 ∧ psR f n w = v)) := by
  refine Ct.of (own := RX9) (cc := cX9_possible) (maxL := 7) (by decide +kernel) rfl (Nat.le_of_ble_eq_true rfl) rfl ?_
  intro K H X R hH hnm hP
  show G K 0 0 H 0 [(0, .ref y), (1, .int (J n)), (2, .int (J w))] []
  obtain ⟨hO, hNw⟩ := hP
  have hnum := hI.nums
  refine g_bipush (pc := 0) X dX9_possible_0 (by decide +kernel) ?_
  refine g_istore_n (pc := 2) (lv' := [(3, _), (0, _), (1, _), (2, _)]) X dX9_possible_2 (by decide) rfl ?_
  refine g_bipush (pc := 3) X dX9_possible_3 (by decide +kernel) ?_
  refine g_istore (pc := 5) (lv' := [(4, _), (3, _), (0, _), (1, _), (2, _)]) X dX9_possible_5 (by decide) rfl ?_
  refine g_iconst (pc := 7) X dX9_possible_7 ?_
  refine g_istore (pc := 8) (lv' := [(5, _), (4, _), (3, _), (0, _), (1, _), (2, _)]) X dX9_possible_8 (by decide) rfl ?_
  refine g_iconst (pc := 10) X dX9_possible_10 ?_
  refine g_istore (pc := 11) (lv' := [(6, _), (5, _), (4, _), (3, _), (0, _), (1, _), (2, _)]) X dX9_possible_11 (by decide) rfl ?_
  have hL13 : ∀ (fu : Nat) (k : Nat) (ki a b c : Int), (f 0).toNat - k < fu → (ki = (k : Int)) → ((k : Int) ≤ f 0) → (best (okN f n) (lkN f n) k = (a, b, c)) → G K 0 0 H 13 [(0, .ref y), (1, .int (J n)), (2, .int (J w)), (3, .int (J a)), (4, .int (J b)), (5, .int (J c)), (6, .int (J ki))] [] := by
    intro fu
    induction fu with
    | zero => intro k ki a b c hm; exact absurd hm (Nat.not_lt_zero _)
    | succ fu ih13 =>
      intro k ki a b c hm he h1 hB
      subst he
      have hbd : (c = 0 ∧ a = -6 ∧ b = -6) ∨ (0 < c ∧ c ≤ (k : Int) ∧ 0 ≤ a ∧ a < (k : Int) ∧ 0 ≤ b ∧ b ≤ 1000) := by
        have q := best_bd (okN f n) (lkN f n) (lkN_bd hI hn.1 hn.2 ht) k
        rw [hB] at q
        obtain ⟨q1, q2, q3, q4⟩ := q
        by_cases z : c = 0
        · exact Or.inl ⟨z, (q3 z).1, (q3 z).2⟩
        · have z2 : 0 < c := by have q5 : 0 ≤ c := q1; omega
          have q6 := q4 z2
          exact Or.inr ⟨z2, q2, q6.1, q6.2.1, q6.2.2.1, q6.2.2.2.1⟩
      refine g_iload (pc := 13) (pl := 6) X dX9_possible_13 rfl ?_
      refine g_aload_n (pc := 15) (pl := 0) X dX9_possible_15 rfl ?_
      refine g_getf (pc := 16) X zF_X9_possible_7 hO rfl dX9_possible_16 ?_
      refine g_iconst (pc := 19) X dX9_possible_19 ?_
      refine g_iaload (pc := 20) X hNw (by omega) (by omega) (by omega) dX9_possible_20 ?_
      refine g_icmp_ge (pc := 21) X 73 dX9_possible_21 (by decide) (by omega) (by omega) (fun c21 => ?_) (fun c21 => ?_)
      · skip
        refine g_iload_n (pc := 73) (pl := 2) X dX9_possible_73 rfl ?_
        refine g_if_eq (pc := 74) X 83 dX9_possible_74 (by decide) (by omega) (fun c74 => ?_) (fun c74 => ?_)
        · skip
          refine g_iload_n (pc := 83) (pl := 3) X dX9_possible_83 rfl ?_
          refine g_goto (pc := 84) X 99 dX9_possible_84 (by decide) ?_
          refine g_iret (pc := 99) X R hH dX9_possible_99 ?_
          have ek : (f 0).toNat = k := by omega
          have hb2 : bstN f n = (a, b, c) := by unfold bstN; rw [ek]; exact hB
          refine ⟨rfl, ?_⟩
          unfold psR
          rw [hb2]
          dsimp only
          (repeat' split) <;> first | rfl | omega | (exfalso; omega)
        · skip
          refine g_iload_n (pc := 77) (pl := 3) X dX9_possible_77 rfl ?_
          refine g_bipush (pc := 78) X dX9_possible_78 (by decide +kernel) ?_
          refine g_icmp_ne (pc := 80) X 87 dX9_possible_80 (by decide) (by omega) (by omega) (fun c80 => ?_) (fun c80 => ?_)
          · skip
            refine g_iload_n (pc := 87) (pl := 2) X dX9_possible_87 rfl ?_
            refine g_iconst (pc := 88) X dX9_possible_88 ?_
            refine g_icmp_ne (pc := 89) X 97 dX9_possible_89 (by decide) (by omega) (by omega) (fun c89 => ?_) (fun c89 => ?_)
            · skip
              refine g_iload (pc := 97) (pl := 5) X dX9_possible_97 rfl ?_
              refine g_iret (pc := 99) X R hH dX9_possible_99 ?_
              have ek : (f 0).toNat = k := by omega
              have hb2 : bstN f n = (a, b, c) := by unfold bstN; rw [ek]; exact hB
              refine ⟨rfl, ?_⟩
              unfold psR
              rw [hb2]
              dsimp only
              (repeat' split) <;> first | rfl | omega | (exfalso; omega)
            · skip
              refine g_iload (pc := 92) (pl := 4) X dX9_possible_92 rfl ?_
              refine g_goto (pc := 94) X 99 dX9_possible_94 (by decide) ?_
              refine g_iret (pc := 99) X R hH dX9_possible_99 ?_
              have ek : (f 0).toNat = k := by omega
              have hb2 : bstN f n = (a, b, c) := by unfold bstN; rw [ek]; exact hB
              refine ⟨rfl, ?_⟩
              unfold psR
              rw [hb2]
              dsimp only
              (repeat' split) <;> first | rfl | omega | (exfalso; omega)
          · skip
            refine g_iload_n (pc := 83) (pl := 3) X dX9_possible_83 rfl ?_
            refine g_goto (pc := 84) X 99 dX9_possible_84 (by decide) ?_
            refine g_iret (pc := 99) X R hH dX9_possible_99 ?_
            have ek : (f 0).toNat = k := by omega
            have hb2 : bstN f n = (a, b, c) := by unfold bstN; rw [ek]; exact hB
            refine ⟨rfl, ?_⟩
            unfold psR
            rw [hb2]
            dsimp only
            (repeat' split) <;> first | rfl | omega | (exfalso; omega)
      · skip
        refine g_aload_n (pc := 24) (pl := 0) X dX9_possible_24 rfl ?_
        refine g_iload_n (pc := 25) (pl := 1) X dX9_possible_25 rfl ?_
        refine g_iload (pc := 26) (pl := 6) X dX9_possible_26 rfl ?_
        refine gVi (pc := 28) (n2 := 0) (k2 := 0) X cs_X9_possible_155 (c_X9_looksLike (zl K) D base y kp pd at' od fi la pc f n (k : Int) hq hI hn ht (by omega)) rfl hO (by omega) ⟨hO, hNw⟩ rfl ⟨Nat.le_of_ble_eq_true rfl, Nat.le_of_ble_eq_true rfl⟩ dX9_possible_28 (Nat.le_of_ble_eq_true rfl) rfl rfl (fun v28 H1 hp28 hs28 => ?_)
        obtain ⟨rfl, rfl⟩ := hp28
        refine g_if_eq (pc := 31) X 67 dX9_possible_31 (by decide) (zbr _) (fun c31 => ?_) (fun c31 => ?_)
        · skip
          replace c31 := zb0 c31
          refine g_iinc (pc := 67) (pl := 6) (x := (k : Int)) (lv' := [(6, _), (0, _), (1, _), (2, _), (3, _), (4, _), (5, _)]) X dX9_possible_67 rfl (by decide) rfl ?_
          refine g_goto (pc := 70) X 13 dX9_possible_70 (by decide) ?_
          refine G.pick [1, 2, 3, 4, 5, 6, 0] (lv' := [(0, _), (1, _), (2, _), (3, _), (4, _), (5, _), (6, _)]) rfl ?_
          exact ih13 (k + 1) _ _ _ _ (by omega) (by omega) (by omega) ((best_no (ok := okN f n) (lk := lkN f n) c31).trans hB)
        · skip
          replace c31 := zb1 c31
          have hok2 := ((okN_iff hI hn ht (by omega)).mp c31).1
          refine g_iinc (pc := 34) (pl := 5) (x := c) (lv' := [(5, _), (0, _), (1, _), (2, _), (3, _), (4, _), (6, _)]) X dX9_possible_34 rfl (by decide) rfl ?_
          refine g_iload_n (pc := 37) (pl := 4) X dX9_possible_37 rfl ?_
          refine g_bipush (pc := 38) X dX9_possible_38 (by decide +kernel) ?_
          refine g_icmp_eq (pc := 40) X 55 dX9_possible_40 (by decide) (by omega) (by omega) (fun c40 => ?_) (fun c40 => ?_)
          · skip
            refine g_iload (pc := 55) (pl := 6) X dX9_possible_55 rfl ?_
            refine g_istore_n (pc := 57) (lv' := [(3, _), (5, _), (0, _), (1, _), (2, _), (4, _), (6, _)]) X dX9_possible_57 (by decide) rfl ?_
            refine g_aload_n (pc := 58) (pl := 2) X dX9_possible_58 rfl ?_
            refine g_iload_n (pc := 59) (pl := 3) X dX9_possible_59 rfl ?_
            refine g_iload (pc := 60) (pl := 6) X dX9_possible_60 rfl ?_
            refine gVi (pc := 62) (n2 := 0) (k2 := 0) X cs_X9_possible_158 (c_X9_likeness (zl K) D base y kp pd at' od fi la pc f n (k : Int) hq hI hn ht ⟨by omega, hok2⟩) rfl hO (by omega) ⟨hO, hNw⟩ rfl ⟨Nat.le_of_ble_eq_true rfl, Nat.le_of_ble_eq_true rfl⟩ dX9_possible_62 (Nat.le_of_ble_eq_true rfl) rfl rfl (fun v62 H1 hp62 hs62 => ?_)
            obtain ⟨rfl, rfl⟩ := hp62
            have hlb := lkN_bd hI hn.1 hn.2 ht (k : Int)
            refine g_istore (pc := 65) (lv' := [(4, _), (3, _), (5, _), (0, _), (1, _), (2, _), (6, _)]) X dX9_possible_65 (by decide) rfl ?_
            refine g_iinc (pc := 67) (pl := 6) (x := (k : Int)) (lv' := [(6, _), (4, _), (3, _), (5, _), (0, _), (1, _), (2, _)]) X dX9_possible_67 rfl (by decide) rfl ?_
            refine g_goto (pc := 70) X 13 dX9_possible_70 (by decide) ?_
            refine G.pick [4, 5, 6, 2, 1, 3, 0] (lv' := [(0, _), (1, _), (2, _), (3, _), (4, _), (5, _), (6, _)]) rfl ?_
            have q := best_yes (ok := okN f n) (lk := lkN f n) (p := k) c31
            rw [hB] at q
            have e1 : (if c = 0 ∨ b < lkN f n (k : Int) then (k : Int) else a) = (k : Int) := if_pos (by omega)
            have e2 : (if c = 0 ∨ b < lkN f n (k : Int) then lkN f n (k : Int) else b) = lkN f n (k : Int) := if_pos (by omega)
            exact ih13 (k + 1) _ _ _ _ (by omega) (by omega) (by omega) (Prod.ext (q.1.trans e1) (Prod.ext (q.2.1.trans e2) q.2.2))
          · skip
            refine g_aload_n (pc := 43) (pl := 1) X dX9_possible_43 rfl ?_
            refine g_iload_n (pc := 44) (pl := 2) X dX9_possible_44 rfl ?_
            refine g_iload (pc := 45) (pl := 6) X dX9_possible_45 rfl ?_
            refine gVi (pc := 47) (n2 := 0) (k2 := 0) X cs_X9_possible_158 (c_X9_likeness (zl K) D base y kp pd at' od fi la pc f n (k : Int) hq hI hn ht ⟨by omega, hok2⟩) rfl hO (by omega) ⟨hO, hNw⟩ rfl ⟨Nat.le_of_ble_eq_true rfl, Nat.le_of_ble_eq_true rfl⟩ dX9_possible_47 (Nat.le_of_ble_eq_true rfl) rfl rfl (fun v47 H1 hp47 hs47 => ?_)
            obtain ⟨rfl, rfl⟩ := hp47
            have hlb := lkN_bd hI hn.1 hn.2 ht (k : Int)
            refine g_iload (pc := 50) (pl := 5) X dX9_possible_50 rfl ?_
            refine g_icmp_le (pc := 52) X 67 dX9_possible_52 (by decide) (by omega) (by omega) (fun c52 => ?_) (fun c52 => ?_)
            · skip
              refine g_iinc (pc := 67) (pl := 6) (x := (k : Int)) (lv' := [(6, _), (5, _), (0, _), (1, _), (2, _), (3, _), (4, _)]) X dX9_possible_67 rfl (by decide) rfl ?_
              refine g_goto (pc := 70) X 13 dX9_possible_70 (by decide) ?_
              refine G.pick [2, 3, 4, 5, 6, 1, 0] (lv' := [(0, _), (1, _), (2, _), (3, _), (4, _), (5, _), (6, _)]) rfl ?_
              have q := best_yes (ok := okN f n) (lk := lkN f n) (p := k) c31
              rw [hB] at q
              have e1 : (if c = 0 ∨ b < lkN f n (k : Int) then (k : Int) else a) = a := if_neg (by omega)
              have e2 : (if c = 0 ∨ b < lkN f n (k : Int) then lkN f n (k : Int) else b) = b := if_neg (by omega)
              exact ih13 (k + 1) _ _ _ _ (by omega) (by omega) (by omega) (Prod.ext (q.1.trans e1) (Prod.ext (q.2.1.trans e2) q.2.2))
            · skip
              refine g_iload (pc := 55) (pl := 6) X dX9_possible_55 rfl ?_
              refine g_istore_n (pc := 57) (lv' := [(3, _), (5, _), (0, _), (1, _), (2, _), (4, _), (6, _)]) X dX9_possible_57 (by decide) rfl ?_
              refine g_aload_n (pc := 58) (pl := 2) X dX9_possible_58 rfl ?_
              refine g_iload_n (pc := 59) (pl := 3) X dX9_possible_59 rfl ?_
              refine g_iload (pc := 60) (pl := 6) X dX9_possible_60 rfl ?_
              refine gVi (pc := 62) (n2 := 0) (k2 := 0) X cs_X9_possible_158 (c_X9_likeness (zl K) D base y kp pd at' od fi la pc f n (k : Int) hq hI hn ht ⟨by omega, hok2⟩) rfl hO (by omega) ⟨hO, hNw⟩ rfl ⟨Nat.le_of_ble_eq_true rfl, Nat.le_of_ble_eq_true rfl⟩ dX9_possible_62 (Nat.le_of_ble_eq_true rfl) rfl rfl (fun v62 H1 hp62 hs62 => ?_)
              obtain ⟨rfl, rfl⟩ := hp62
              have hlb := lkN_bd hI hn.1 hn.2 ht (k : Int)
              refine g_istore (pc := 65) (lv' := [(4, _), (3, _), (5, _), (0, _), (1, _), (2, _), (6, _)]) X dX9_possible_65 (by decide) rfl ?_
              refine g_iinc (pc := 67) (pl := 6) (x := (k : Int)) (lv' := [(6, _), (4, _), (3, _), (5, _), (0, _), (1, _), (2, _)]) X dX9_possible_67 rfl (by decide) rfl ?_
              refine g_goto (pc := 70) X 13 dX9_possible_70 (by decide) ?_
              refine G.pick [4, 5, 6, 2, 1, 3, 0] (lv' := [(0, _), (1, _), (2, _), (3, _), (4, _), (5, _), (6, _)]) rfl ?_
              have q := best_yes (ok := okN f n) (lk := lkN f n) (p := k) c31
              rw [hB] at q
              have e1 : (if c = 0 ∨ b < lkN f n (k : Int) then (k : Int) else a) = (k : Int) := if_pos (by omega)
              have e2 : (if c = 0 ∨ b < lkN f n (k : Int) then lkN f n (k : Int) else b) = lkN f n (k : Int) := if_pos (by omega)
              exact ih13 (k + 1) _ _ _ _ (by omega) (by omega) (by omega) (Prod.ext (q.1.trans e1) (Prod.ext (q.2.1.trans e2) q.2.2))
  refine G.pick [4, 5, 6, 3, 2, 1, 0] (lv' := [(0, _), (1, _), (2, _), (3, _), (4, _), (5, _), (6, _)]) rfl ?_
  exact hL13 _ 0 _ (-6) (-6) 0 (Nat.lt_succ_self _) rfl (by omega) rfl

abbrev rm_X9_mayReclaim : Room := { frames := 3, cells := 0, slots := 0, locals := 73 }
theorem cs_X9_mayReclaim_140 : zCV RX9 wsX9_mayReclaim 140 9 yX9_isNote wsX9_isNote cX9_isNote 2 (some .boolean) rm_X9_mayReclaim rm_X9_isNote 1 := ⟨_, _, gX9_mayReclaim_X9_isNote, rfl, ⟨by decide +kernel, by decide +kernel, by decide +kernel⟩, ⟨Nat.le_of_ble_eq_true rfl, Nat.le_of_ble_eq_true rfl⟩, rfl, rfl⟩
theorem cs_X9_mayReclaim_85 : zCV RX9 wsX9_mayReclaim 85 9 yX9_isOrphan wsX9_isOrphan cX9_isOrphan 2 (some .boolean) rm_X9_mayReclaim rm_X9_isOrphan 1 := ⟨_, _, gX9_mayReclaim_X9_isOrphan, rfl, ⟨by decide +kernel, by decide +kernel, by decide +kernel⟩, ⟨Nat.le_of_ble_eq_true rfl, Nat.le_of_ble_eq_true rfl⟩, rfl, rfl⟩
theorem cs_X9_mayReclaim_161 : zCV RX9 wsX9_mayReclaim 161 9 yX9_possible wsX9_possible cX9_possible 7 (some .int) rm_X9_mayReclaim rm_X9_possible 2 := ⟨_, _, gX9_mayReclaim_X9_possible, rfl, ⟨by decide +kernel, by decide +kernel, by decide +kernel⟩, ⟨Nat.le_of_ble_eq_true rfl, Nat.le_of_ble_eq_true rfl⟩, rfl, rfl⟩
set_option maxRecDepth 100000 in
theorem c_X9_mayReclaim (l : Launch) (D : zD) (base : Nat) (y : Nat) (kp pd at' od fi la pc : Int) (f : Int → Int) (n : Int) (hq : base ≤ y) (hI : PInv f) (hn : rg n) : Ct l yX9_mayReclaim wsX9_mayReclaim rm_X9_mayReclaim D base [.ref y, .int (J n)] (fun H => MoO D y kp pd at' od fi la pc H ∧ NwAt D y f H) (PI (fun H v H1 => H = H1 ∧ mrR f n = v)) := by
  refine Ct.of (own := RX9) (cc := cX9_mayReclaim) (maxL := 2) (by decide +kernel) rfl (Nat.le_of_ble_eq_true rfl) rfl ?_
  intro K H X R hH hnm hP
  show G K 0 0 H 0 [(0, .ref y), (1, .int (J n))] []
  obtain ⟨hO, hNw⟩ := hP
  have hnum := hI.nums
  refine g_aload_n (pc := 0) (pl := 0) X dX9_mayReclaim_0 rfl ?_
  refine g_iload_n (pc := 1) (pl := 1) X dX9_mayReclaim_1 rfl ?_
  refine gVi (pc := 2) (n2 := 0) (k2 := 0) X cs_X9_mayReclaim_140 (c_X9_isNote (zl K) D base y kp pd at' od fi la pc f n hq hI (by omega)) rfl hO (by omega) ⟨hO, hNw⟩ rfl ⟨Nat.le_of_ble_eq_true rfl, Nat.le_of_ble_eq_true rfl⟩ dX9_mayReclaim_2 (Nat.le_of_ble_eq_true rfl) rfl rfl (fun v2 H1 hp2 hs2 => ?_)
  obtain ⟨rfl, rfl⟩ := hp2
  refine g_if_ne (pc := 5) X 10 dX9_mayReclaim_5 (by decide) (zbr _) (fun c5 => ?_) (fun c5 => ?_)
  · skip
    replace c5 := zb1 c5
    refine g_aload_n (pc := 10) (pl := 0) X dX9_mayReclaim_10 rfl ?_
    refine g_iload_n (pc := 11) (pl := 1) X dX9_mayReclaim_11 rfl ?_
    refine gVi (pc := 12) (n2 := 0) (k2 := 0) X cs_X9_mayReclaim_85 (c_X9_isOrphan (zl K) D base y kp pd at' od fi la pc f n hq hI (by omega)) rfl hO (by omega) ⟨hO, hNw⟩ rfl ⟨Nat.le_of_ble_eq_true rfl, Nat.le_of_ble_eq_true rfl⟩ dX9_mayReclaim_12 (Nat.le_of_ble_eq_true rfl) rfl rfl (fun v12 H1 hp12 hs12 => ?_)
    obtain ⟨rfl, rfl⟩ := hp12
    refine g_if_eq (pc := 15) X 29 dX9_mayReclaim_15 (by decide) (zbr _) (fun c15 => ?_) (fun c15 => ?_)
    · skip
      replace c15 := zb0 c15
      refine g_bipush (pc := 29) X dX9_mayReclaim_29 (by decide +kernel) ?_
      refine g_goto (pc := 31) X 35 dX9_mayReclaim_31 (by decide) ?_
      refine g_iret (pc := 35) X R hH dX9_mayReclaim_35 ?_
      refine ⟨rfl, (if_neg (fun z => z c5)).trans ?_⟩
      first | exact if_pos c15 | exact (if_neg (fun z => z c15)).trans (if_pos (by omega))
    · skip
      replace c15 := zb1 c15
      refine g_aload_n (pc := 18) (pl := 0) X dX9_mayReclaim_18 rfl ?_
      refine g_iload_n (pc := 19) (pl := 1) X dX9_mayReclaim_19 rfl ?_
      refine g_iconst (pc := 20) X dX9_mayReclaim_20 ?_
      have ht := stt_1 c15
      have hin : 0 ≤ n ∧ n < f 1 := by omega
      refine gVi (pc := 21) (n2 := 0) (k2 := 0) X cs_X9_mayReclaim_161 (c_X9_possible (zl K) D base y kp pd at' od fi la pc f n 0 hq hI hin ht (by omega)) rfl hO (by omega) ⟨hO, hNw⟩ rfl ⟨Nat.le_of_ble_eq_true rfl, Nat.le_of_ble_eq_true rfl⟩ dX9_mayReclaim_21 (Nat.le_of_ble_eq_true rfl) rfl rfl (fun v21 H1 hp21 hs21 => ?_)
      obtain ⟨rfl, rfl⟩ := hp21
      have hpb : (bstN f n).2.2 = 0 ∧ psR f n 0 = -6 ∨ ¬ (bstN f n).2.2 = 0 ∧ ¬ psR f n 0 = -6 ∧ 0 ≤ psR f n 0 ∧ psR f n 0 ≤ 1000 := by
        have q := best_bd (okN f n) (lkN f n) (lkN_bd hI hin.1 hin.2 ht) (f 0).toNat
        obtain ⟨q1, q2, q3, q4⟩ := q
        by_cases z : (bstN f n).2.2 = 0
        · exact Or.inl ⟨z, if_pos z⟩
        · have z2 : 0 < (bstN f n).2.2 := by have q5 : 0 ≤ (bstN f n).2.2 := q1; omega
          have q6 := q4 z2
          have q7 : (bstN f n).2.2 ≤ ((f 0).toNat : Int) := q2
          have q8 : 0 ≤ (bstN f n).1 ∧ (bstN f n).1 < ((f 0).toNat : Int) := ⟨q6.1, q6.2.1⟩
          have q9 : 0 ≤ (bstN f n).2.1 ∧ (bstN f n).2.1 ≤ 1000 := ⟨q6.2.2.1, q6.2.2.2.1⟩
          refine Or.inr ⟨z, ?_⟩
          unfold psR
          (repeat' split) <;> omega
      refine g_bipush (pc := 24) X dX9_mayReclaim_24 (by decide +kernel) ?_
      refine g_icmp_ne (pc := 26) X 34 dX9_mayReclaim_26 (by decide) (by omega) (by omega) (fun c26 => ?_) (fun c26 => ?_)
      · skip
        refine g_iconst (pc := 34) X dX9_mayReclaim_34 ?_
        refine g_iret (pc := 35) X R hH dX9_mayReclaim_35 ?_
        refine ⟨rfl, (if_neg (fun z => z c5)).trans ?_⟩
        exact (if_neg (fun z => z c15)).trans (if_neg (by omega))
      · skip
        refine g_bipush (pc := 29) X dX9_mayReclaim_29 (by decide +kernel) ?_
        refine g_goto (pc := 31) X 35 dX9_mayReclaim_31 (by decide) ?_
        refine g_iret (pc := 35) X R hH dX9_mayReclaim_35 ?_
        refine ⟨rfl, (if_neg (fun z => z c5)).trans ?_⟩
        first | exact if_pos c15 | exact (if_neg (fun z => z c15)).trans (if_pos (by omega))
  · skip
    replace c5 := zb0 c5
    refine g_iconst (pc := 8) X dX9_mayReclaim_8 ?_
    refine g_iret (pc := 9) X R hH dX9_mayReclaim_9 ?_
    exact ⟨rfl, if_pos c5⟩

abbrev rm_X9_reclaims : Room := { frames := 3, cells := 0, slots := 0, locals := 73 }
theorem cs_X9_reclaims_161 : zCV RX9 wsX9_reclaims 161 9 yX9_possible wsX9_possible cX9_possible 7 (some .int) rm_X9_reclaims rm_X9_possible 2 := ⟨_, _, gX9_reclaims_X9_possible, rfl, ⟨by decide +kernel, by decide +kernel, by decide +kernel⟩, ⟨Nat.le_of_ble_eq_true rfl, Nat.le_of_ble_eq_true rfl⟩, rfl, rfl⟩
theorem cs_X9_reclaims_45 : zCV RX9 wsX9_reclaims 45 9 yX9_of0 wsX9_of0 cX9_of0 3 (some .int) rm_X9_reclaims rm_X9_of0 2 := ⟨_, _, gX9_reclaims_X9_of0, rfl, ⟨by decide +kernel, by decide +kernel, by decide +kernel⟩, ⟨Nat.le_of_ble_eq_true rfl, Nat.le_of_ble_eq_true rfl⟩, rfl, rfl⟩
theorem cs_X9_reclaims_131 : zCV RX9 wsX9_reclaims 131 9 yX9_takes wsX9_takes cX9_takes 5 none rm_X9_reclaims rm_X9_takes 3 := ⟨_, _, gX9_reclaims_X9_takes, rfl, ⟨by decide +kernel, by decide +kernel, by decide +kernel⟩, ⟨Nat.le_of_ble_eq_true rfl, Nat.le_of_ble_eq_true rfl⟩, rfl, rfl⟩
set_option maxRecDepth 100000 in
theorem c_X9_reclaims (l : Launch) (D : zD) (base : Nat) (y : Nat) (kp pd at' od fi la pc : Int) (f : Int → Int) (n : Int) (hq : base ≤ y) (hI : PInv f) (hin : 0 ≤ n ∧ n < f 1) (ht : f (125 + 80 * n) = -6) (hb0 : 0 < (bstN f n).2.2) (hb1 : 0 ≤ (bstN f n).1) (hb2 : okN f n (bstN f n).1 = true) : Ct l yX9_reclaims wsX9_reclaims rm_X9_reclaims D base [.ref y, .int (J n)] (fun H => MoO D y kp pd at' od fi la pc H ∧ NwAt D y f H) (PI (fun H v H1 => (bstN f n).1 = v ∧ MoO D y kp pd at' od fi la pc H1 ∧ NwAt D y (tkX f n (bstN f n).1 ((bstN f n).1 + f (126 + 80 * n) - 1)) H1 ∧ Fr (Iv (y + 1) (y + 2)) 0 H H1)) := by
  refine Ct.of (own := RX9) (cc := cX9_reclaims) (maxL := 3) (by decide +kernel) rfl (Nat.le_of_ble_eq_true rfl) rfl ?_
  intro K H X R hH hnm hP
  show G K 0 0 H 0 [(0, .ref y), (1, .int (J n))] []
  obtain ⟨hO, hNw⟩ := hP
  have hnum := hI.nums
  have hv := hI.nt hin.1 hin.2 ht
  have hk2 := ((okN_iff hI hin ht hb1).mp hb2).1
  refine g_aload_n (pc := 0) (pl := 0) X dX9_reclaims_0 rfl ?_
  refine g_iload_n (pc := 1) (pl := 1) X dX9_reclaims_1 rfl ?_
  refine g_iconst (pc := 2) X dX9_reclaims_2 ?_
  refine gVi (pc := 3) (n2 := 0) (k2 := 0) X cs_X9_reclaims_161 (c_X9_possible (zl K) D base y kp pd at' od fi la pc f n 0 hq hI hin ht (by omega)) rfl hO (by omega) ⟨hO, hNw⟩ rfl ⟨Nat.le_of_ble_eq_true rfl, Nat.le_of_ble_eq_true rfl⟩ dX9_reclaims_3 (Nat.le_of_ble_eq_true rfl) rfl rfl (fun v3 H1 hp3 hs3 => ?_)
  obtain ⟨rfl, rfl⟩ := hp3
  rw [show psR f n 0 = (bstN f n).1 from (if_neg (by omega)).trans (if_pos rfl)]
  refine g_istore_n (pc := 6) (lv' := [(2, _), (0, _), (1, _)]) X dX9_reclaims_6 (by decide) rfl ?_
  refine g_aload_n (pc := 7) (pl := 1) X dX9_reclaims_7 rfl ?_
  refine g_iload_n (pc := 8) (pl := 2) X dX9_reclaims_8 rfl ?_
  refine g_iload_n (pc := 9) (pl := 0) X dX9_reclaims_9 rfl ?_
  refine g_iload_n (pc := 10) (pl := 0) X dX9_reclaims_10 rfl ?_
  refine g_aload_n (pc := 11) (pl := 1) X dX9_reclaims_11 rfl ?_
  refine g_iload_n (pc := 12) (pl := 2) X dX9_reclaims_12 rfl ?_
  refine g_iconst (pc := 13) X dX9_reclaims_13 ?_
  refine gVi (pc := 14) (n2 := 0) (k2 := 0) X cs_X9_reclaims_45 (c_X9_of0 (zl K) D base y kp pd at' od fi la pc f n 1 hq (by omega) (by omega)) rfl hO (by omega) ⟨hO, hNw⟩ rfl ⟨Nat.le_of_ble_eq_true rfl, Nat.le_of_ble_eq_true rfl⟩ dX9_reclaims_14 (Nat.le_of_ble_eq_true rfl) rfl rfl (fun v14 H1 hp14 hs14 => ?_)
  obtain ⟨rfl, rfl⟩ := hp14
  rw [show f (125 + 80 * n + 1) = f (126 + 80 * n) from congrArg f (by omega)]
  refine g_iadd (pc := 17) X dX9_reclaims_17 ?_
  refine g_iconst (pc := 18) X dX9_reclaims_18 ?_
  refine g_isub (pc := 19) X dX9_reclaims_19 ?_
  refine gVv (pc := 20) (n2 := 0) (k2 := 0) X cs_X9_reclaims_131 (c_X9_takes (zl K) D base y kp pd at' od fi la pc f n (bstN f n).1 ((bstN f n).1 + f (126 + 80 * n) - 1) hq (by omega) (by omega) (by omega) hI.own) rfl hO (by omega) ⟨hO, hNw⟩ rfl ⟨Nat.le_of_ble_eq_true rfl, Nat.le_of_ble_eq_true rfl⟩ dX9_reclaims_20 (Nat.le_of_ble_eq_true rfl) rfl rfl (fun H1 hp20 hs20 => ?_)
  obtain ⟨hOn, hNwn, hfr⟩ := hp20
  clear hO hNw
  have hO := hOn
  have hNw := hNwn
  refine g_iload_n (pc := 23) (pl := 0) X dX9_reclaims_23 rfl ?_
  refine g_iret (pc := 24) X R hH dX9_reclaims_24 ?_
  exact ⟨rfl, hO, hNw, (hfr.wide (by omega) (by omega))⟩

abbrev rm_X9_reclaim : Room := { frames := 4, cells := 0, slots := 0, locals := 95 }
theorem cs_X9_reclaim_164 : zCV RX9 wsX9_reclaim 164 9 yX9_mayReclaim wsX9_mayReclaim cX9_mayReclaim 2 (some .int) rm_X9_reclaim rm_X9_mayReclaim 1 := ⟨_, _, gX9_reclaim_X9_mayReclaim, rfl, ⟨by decide +kernel, by decide +kernel, by decide +kernel⟩, ⟨Nat.le_of_ble_eq_true rfl, Nat.le_of_ble_eq_true rfl⟩, rfl, rfl⟩
theorem cs_X9_reclaim_57 : zCV RX9 wsX9_reclaim 57 9 yX9_records wsX9_records cX9_records 2 none rm_X9_reclaim rm_X9_records 0 := ⟨_, _, gX9_reclaim_X9_records, rfl, ⟨by decide +kernel, by decide +kernel, by decide +kernel⟩, ⟨Nat.le_of_ble_eq_true rfl, Nat.le_of_ble_eq_true rfl⟩, rfl, rfl⟩
theorem cs_X9_reclaim_167 : zCV RX9 wsX9_reclaim 167 9 yX9_reclaims wsX9_reclaims cX9_reclaims 3 (some .int) rm_X9_reclaim rm_X9_reclaims 1 := ⟨_, _, gX9_reclaim_X9_reclaims, rfl, ⟨by decide +kernel, by decide +kernel, by decide +kernel⟩, ⟨Nat.le_of_ble_eq_true rfl, Nat.le_of_ble_eq_true rfl⟩, rfl, rfl⟩
set_option maxRecDepth 100000 in
theorem c_X9_reclaim (l : Launch) (D : zD) (base : Nat) (y : Nat) (kp pd at' od fi la pc : Int) (f : Int → Int) (st : Int → Int → Int) (n : Int) (hq : base ≤ y) (hI : PInv f) (hkp : 0 ≤ kp ∧ kp ≤ 6) (hn : rg n) : Ct l yX9_reclaim wsX9_reclaim rm_X9_reclaim D base [.ref y, .int (J n)] (fun H => MoO D y kp pd at' od fi la pc H ∧ NwAt D y f H ∧ PaAt D y kp st H) (PI (fun H v H1 => rcR f n = v ∧ (∃ f2 : Int → Int, MEq (rcG f n) f2 ∧ NwAt D y f2 H1) ∧ MoO D y (hsN kp (rcR f n)) pd at' od fi la pc H1 ∧ PaAt D y (hsN kp (rcR f n)) (hsS kp (rcR f n) st f) H1 ∧ Fr (Iv y (y + 3)) 0 H H1)) := by
  refine Ct.of (own := RX9) (cc := cX9_reclaim) (maxL := 3) (by decide +kernel) rfl (Nat.le_of_ble_eq_true rfl) rfl ?_
  intro K H X R hH hnm hP
  show G K 0 0 H 0 [(0, .ref y), (1, .int (J n))] []
  obtain ⟨hO, hNw, hPa⟩ := hP
  have hnum := hI.nums
  have hm := mrR_may hI (n := n)
  have hmb : -5 ≤ mrR f n ∧ mrR f n ≤ 0 := by unfold mrR; (repeat' split) <;> omega
  refine g_aload_n (pc := 0) (pl := 0) X dX9_reclaim_0 rfl ?_
  refine g_iload_n (pc := 1) (pl := 1) X dX9_reclaim_1 rfl ?_
  refine gVi (pc := 2) (n2 := 0) (k2 := 0) X cs_X9_reclaim_164 (c_X9_mayReclaim (zl K) D base y kp pd at' od fi la pc f n hq hI hn) rfl hO (by omega) ⟨hO, hNw⟩ rfl ⟨Nat.le_of_ble_eq_true rfl, Nat.le_of_ble_eq_true rfl⟩ dX9_reclaim_2 (Nat.le_of_ble_eq_true rfl) rfl rfl (fun v2 H1 hp2 hs2 => ?_)
  obtain ⟨rfl, rfl⟩ := hp2
  refine g_istore_n (pc := 5) (lv' := [(2, _), (0, _), (1, _)]) X dX9_reclaim_5 (by decide) rfl ?_
  refine g_iload_n (pc := 6) (pl := 0) X dX9_reclaim_6 rfl ?_
  refine g_if_eq (pc := 7) X 12 dX9_reclaim_7 (by decide) (by omega) (fun c7 => ?_) (fun c7 => ?_)
  · skip
    refine g_aload_n (pc := 12) (pl := 1) X dX9_reclaim_12 rfl ?_
    obtain ⟨ps, hPs, hst⟩ := id hPa
    refine gVv (pc := 13) (n2 := 0) (k2 := 0) X cs_X9_reclaim_57 (c_X9_records (zl K) D base y kp pd at' od fi la pc f ps hq hkp) rfl hO (by omega) ⟨hO, hNw, hPs⟩ rfl ⟨Nat.le_of_ble_eq_true rfl, Nat.le_of_ble_eq_true rfl⟩ dX9_reclaim_13 (Nat.le_of_ble_eq_true rfl) rfl rfl (fun H1 hp13 hs13 => ?_)
    obtain ⟨hOn, hNwn, ⟨ps2, hPs2, hr2⟩, hfr⟩ := hp13
    have hPan : PaAt D y (hpN kp) (hpS kp st f) H1 := ⟨ps2, hPs2, hpS_rec hkp hst hr2⟩
    clear hO hNw hPa hPs
    have hO := hOn
    have hNw := hNwn
    have hPa := hPan
    clear hOn hNwn hPan hPs2
    refine g_aload_n (pc := 16) (pl := 1) X dX9_reclaim_16 rfl ?_
    refine g_iload_n (pc := 17) (pl := 2) X dX9_reclaim_17 rfl ?_
    obtain ⟨-, g1, g2, g3, g4, g5, g6, g7⟩ | ⟨g1, -⟩ := hm
    rotate_left
    exact absurd g1 (by omega)
    refine gVi (pc := 18) (n2 := 0) (k2 := 0) X cs_X9_reclaim_167 (c_X9_reclaims (zl K) D base y (hpN kp) pd at' od fi la pc f n hq hI g1 g2 g4 g5 g6) rfl hO (by omega) ⟨hO, hNw⟩ rfl ⟨Nat.le_of_ble_eq_true rfl, Nat.le_of_ble_eq_true rfl⟩ dX9_reclaim_18 (Nat.le_of_ble_eq_true rfl) rfl rfl (fun v18 H2 hp18 hs18 => ?_)
    obtain ⟨hv18, hOn, hNwn, hfc⟩ := hp18
    subst hv18
    replace hO := hO.fr hfc (by omega)
    replace hPa := hPa.fr hfc (by omega)
    clear hO hNw
    have hO := hOn
    have hNw := hNwn
    refine g_iret (pc := 21) X R hH dX9_reclaim_21 ?_
    have eg : rcG f n = anG f n (bstN f n).1 ((bstN f n).1 + f (126 + 80 * n) - 1) := if_neg (by omega)
    rw [g7, eg]
    rw [show hsN kp ((bstN f n).1) = hpN kp from if_neg (by omega), show hsS kp ((bstN f n).1) st f = hpS kp st f from if_neg (by omega)]
    exact ⟨rfl, ⟨_, rc_eq hI g1 g2 g6 g5, hNw⟩, hO, hPa, (Fr.trans (hfr.wide (by omega) (by omega)) (hfc.wide (by omega) (by omega)))⟩
  · skip
    refine g_iload_n (pc := 10) (pl := 0) X dX9_reclaim_10 rfl ?_
    refine g_iret (pc := 11) X R hH dX9_reclaim_11 ?_
    have er : rcR f n = mrR f n := by rcases hm with z | z; exact absurd z.1 c7; exact z.2
    have hlt : mrR f n < 0 := by omega
    rw [er]
    rw [show hsN kp (mrR f n) = kp from if_pos (by omega), show hsS kp (mrR f n) st f = st from if_pos (by omega)]
    exact ⟨rfl, ⟨f, by rw [show rcG f n = f from if_pos (by omega)]; exact MEq.refl _, hNw⟩, hO, hPa, Fr.refl _ _⟩

abbrev rm_X9_could : Room := { frames := 3, cells := 0, slots := 0, locals := 73 }
theorem cs_X9_could_140 : zCV RX9 wsX9_could 140 9 yX9_isNote wsX9_isNote cX9_isNote 2 (some .boolean) rm_X9_could rm_X9_isNote 1 := ⟨_, _, gX9_could_X9_isNote, rfl, ⟨by decide +kernel, by decide +kernel, by decide +kernel⟩, ⟨Nat.le_of_ble_eq_true rfl, Nat.le_of_ble_eq_true rfl⟩, rfl, rfl⟩
theorem cs_X9_could_41 : zCJ RX9 wsX9_could 41 yX9_in wsX9_in cX9_in 3 (some .boolean) rm_X9_could rm_X9_in 3 := ⟨_, gX9_could_X9_in, rfl, ⟨by decide +kernel, by decide +kernel, by decide +kernel⟩, ⟨Nat.le_of_ble_eq_true rfl, Nat.le_of_ble_eq_true rfl⟩⟩
theorem cs_X9_could_85 : zCV RX9 wsX9_could 85 9 yX9_isOrphan wsX9_isOrphan cX9_isOrphan 2 (some .boolean) rm_X9_could rm_X9_isOrphan 1 := ⟨_, _, gX9_could_X9_isOrphan, rfl, ⟨by decide +kernel, by decide +kernel, by decide +kernel⟩, ⟨Nat.le_of_ble_eq_true rfl, Nat.le_of_ble_eq_true rfl⟩, rfl, rfl⟩
theorem cs_X9_could_161 : zCV RX9 wsX9_could 161 9 yX9_possible wsX9_possible cX9_possible 7 (some .int) rm_X9_could rm_X9_possible 2 := ⟨_, _, gX9_could_X9_possible, rfl, ⟨by decide +kernel, by decide +kernel, by decide +kernel⟩, ⟨Nat.le_of_ble_eq_true rfl, Nat.le_of_ble_eq_true rfl⟩, rfl, rfl⟩
set_option maxRecDepth 100000 in
theorem c_X9_could (l : Launch) (D : zD) (base : Nat) (y : Nat) (kp pd at' od fi la pc : Int) (f : Int → Int) (n w : Int) (hq : base ≤ y) (hI : PInv f) (hn : rg n) (hw : rg w) : Ct l yX9_could wsX9_could rm_X9_could D base [.ref y, .int (J n), .int (J w)] (fun H => MoO D y kp pd at' od fi la pc H ∧ NwAt D y f H) (PI (fun H v H1 => H = H1 ∧ coR f n w = v)) := by
  refine Ct.of (own := RX9) (cc := cX9_could) (maxL := 3) (by decide +kernel) rfl (Nat.le_of_ble_eq_true rfl) rfl ?_
  intro K H X R hH hnm hP
  show G K 0 0 H 0 [(0, .ref y), (1, .int (J n)), (2, .int (J w))] []
  obtain ⟨hO, hNw⟩ := hP
  have hnum := hI.nums
  refine g_aload_n (pc := 0) (pl := 0) X dX9_could_0 rfl ?_
  refine g_iload_n (pc := 1) (pl := 1) X dX9_could_1 rfl ?_
  refine gVi (pc := 2) (n2 := 0) (k2 := 0) X cs_X9_could_140 (c_X9_isNote (zl K) D base y kp pd at' od fi la pc f n hq hI (by omega)) rfl hO (by omega) ⟨hO, hNw⟩ rfl ⟨Nat.le_of_ble_eq_true rfl, Nat.le_of_ble_eq_true rfl⟩ dX9_could_2 (Nat.le_of_ble_eq_true rfl) rfl rfl (fun v2 H1 hp2 hs2 => ?_)
  obtain ⟨rfl, rfl⟩ := hp2
  refine g_if_ne (pc := 5) X 10 dX9_could_5 (by decide) (zbr _) (fun c5 => ?_) (fun c5 => ?_)
  · skip
    replace c5 := zb1 c5
    refine g_iload_n (pc := 10) (pl := 2) X dX9_could_10 rfl ?_
    refine g_iconst (pc := 11) X dX9_could_11 ?_
    refine g_iconst (pc := 12) X dX9_could_12 ?_
    refine gJi (pc := 13) (n2 := 0) (k2 := 0) X cs_X9_could_41 (c_X9_in (zl K) D base w 0 2 (by omega) (by omega) (by omega)) rfl (by have := hO.lt; omega) trivial rfl ⟨Nat.le_of_ble_eq_true rfl, Nat.le_of_ble_eq_true rfl⟩ dX9_could_13 (Nat.le_of_ble_eq_true rfl) rfl rfl (fun v13 H1 hp13 hs13 => ?_)
    obtain ⟨rfl, rfl⟩ := hp13
    refine g_if_ne (pc := 16) X 22 dX9_could_16 (by decide) (zbr _) (fun c16 => ?_) (fun c16 => ?_)
    · skip
      replace c16 := zb1 c16
      refine g_aload_n (pc := 22) (pl := 0) X dX9_could_22 rfl ?_
      refine g_iload_n (pc := 23) (pl := 1) X dX9_could_23 rfl ?_
      refine gVi (pc := 24) (n2 := 0) (k2 := 0) X cs_X9_could_85 (c_X9_isOrphan (zl K) D base y kp pd at' od fi la pc f n hq hI (by omega)) rfl hO (by omega) ⟨hO, hNw⟩ rfl ⟨Nat.le_of_ble_eq_true rfl, Nat.le_of_ble_eq_true rfl⟩ dX9_could_24 (Nat.le_of_ble_eq_true rfl) rfl rfl (fun v24 H1 hp24 hs24 => ?_)
      obtain ⟨rfl, rfl⟩ := hp24
      refine g_if_eq (pc := 27) X 39 dX9_could_27 (by decide) (zbr _) (fun c27 => ?_) (fun c27 => ?_)
      · skip
        replace c27 := zb0 c27
        refine g_bipush (pc := 39) X dX9_could_39 (by decide +kernel) ?_
        refine g_iret (pc := 41) X R hH dX9_could_41 ?_
        refine ⟨rfl, (if_neg (fun z => z c5)).trans ((if_neg (fun z => z c16)).trans ?_)⟩
        exact if_pos c27
      · skip
        replace c27 := zb1 c27
        refine g_aload_n (pc := 30) (pl := 0) X dX9_could_30 rfl ?_
        refine g_iload_n (pc := 31) (pl := 1) X dX9_could_31 rfl ?_
        refine g_iload_n (pc := 32) (pl := 2) X dX9_could_32 rfl ?_
        have ht := stt_1 c27
        have hin : 0 ≤ n ∧ n < f 1 := by omega
        refine gVi (pc := 33) (n2 := 0) (k2 := 0) X cs_X9_could_161 (c_X9_possible (zl K) D base y kp pd at' od fi la pc f n w hq hI hin ht (by omega)) rfl hO (by omega) ⟨hO, hNw⟩ rfl ⟨Nat.le_of_ble_eq_true rfl, Nat.le_of_ble_eq_true rfl⟩ dX9_could_33 (Nat.le_of_ble_eq_true rfl) rfl rfl (fun v33 H1 hp33 hs33 => ?_)
        obtain ⟨rfl, rfl⟩ := hp33
        refine g_goto (pc := 36) X 41 dX9_could_36 (by decide) ?_
        refine g_iret (pc := 41) X R hH dX9_could_41 ?_
        refine ⟨rfl, (if_neg (fun z => z c5)).trans ((if_neg (fun z => z c16)).trans ?_)⟩
        exact if_neg (fun z => z c27)
    · skip
      replace c16 := zb0 c16
      refine g_bipush (pc := 19) X dX9_could_19 (by decide +kernel) ?_
      refine g_iret (pc := 21) X R hH dX9_could_21 ?_
      exact ⟨rfl, (if_neg (fun z => z c5)).trans (if_pos c16)⟩
  · skip
    replace c5 := zb0 c5
    refine g_iconst (pc := 8) X dX9_could_8 ?_
    refine g_iret (pc := 9) X R hH dX9_could_9 ?_
    exact ⟨rfl, if_pos c5⟩

abbrev rm_X9_orphansIf : Room := { frames := 3, cells := 0, slots := 0, locals := 65 }
theorem cs_X9_orphansIf_112 : zCV RX9 wsX9_orphansIf 112 9 yX9_maySpan wsX9_maySpan cX9_maySpan 3 (some .int) rm_X9_orphansIf rm_X9_maySpan 2 := ⟨_, _, gX9_orphansIf_X9_maySpan, rfl, ⟨by decide +kernel, by decide +kernel, by decide +kernel⟩, ⟨Nat.le_of_ble_eq_true rfl, Nat.le_of_ble_eq_true rfl⟩, rfl, rfl⟩
theorem zF_X9_orphansIf_7 : zF RX9 wsX9_orphansIf 9 0 7 := ⟨RX9, TX9, 17, rfl, by decide +kernel, by decide, by decide +kernel⟩
theorem cs_X9_orphansIf_41 : zCJ RX9 wsX9_orphansIf 41 yX9_in wsX9_in cX9_in 3 (some .boolean) rm_X9_orphansIf rm_X9_in 3 := ⟨_, gX9_orphansIf_X9_in, rfl, ⟨by decide +kernel, by decide +kernel, by decide +kernel⟩, ⟨Nat.le_of_ble_eq_true rfl, Nat.le_of_ble_eq_true rfl⟩⟩
set_option maxRecDepth 100000 in
theorem c_X9_orphansIf (l : Launch) (D : zD) (base : Nat) (y : Nat) (kp pd at' od fi la pc : Int) (f : Int → Int) (a b : Int) (hq : base ≤ y) (hI : PInv f) (ha : rg a) (hb : rg b) : Ct l yX9_orphansIf wsX9_orphansIf rm_X9_orphansIf D base [.ref y, .int (J a), .int (J b)] (fun H => MoO D y kp pd at' od fi la pc H ∧ NwAt D y f H) (PI (fun H v H1 => H = H1 ∧ orR f a b = v)) := by
  refine Ct.of (own := RX9) (cc := cX9_orphansIf) (maxL := 7) (by decide +kernel) rfl (Nat.le_of_ble_eq_true rfl) rfl ?_
  intro K H X R hH hnm hP
  show G K 0 0 H 0 [(0, .ref y), (1, .int (J a)), (2, .int (J b))] []
  obtain ⟨hO, hNw⟩ := hP
  have hnum := hI.nums
  refine g_aload_n (pc := 0) (pl := 0) X dX9_orphansIf_0 rfl ?_
  refine g_iload_n (pc := 1) (pl := 1) X dX9_orphansIf_1 rfl ?_
  refine g_iload_n (pc := 2) (pl := 2) X dX9_orphansIf_2 rfl ?_
  refine gVi (pc := 3) (n2 := 0) (k2 := 0) X cs_X9_orphansIf_112 (c_X9_maySpan (zl K) D base y kp pd at' od fi la pc f a b hq hI ha hb) rfl hO (by omega) ⟨hO, hNw⟩ rfl ⟨Nat.le_of_ble_eq_true rfl, Nat.le_of_ble_eq_true rfl⟩ dX9_orphansIf_3 (Nat.le_of_ble_eq_true rfl) rfl rfl (fun v3 H1 hp3 hs3 => ?_)
  obtain ⟨rfl, rfl⟩ := hp3
  have hpe := perr_bd f a b
  refine g_istore_n (pc := 6) (lv' := [(3, _), (0, _), (1, _), (2, _)]) X dX9_orphansIf_6 (by decide) rfl ?_
  refine g_iload_n (pc := 7) (pl := 0) X dX9_orphansIf_7 rfl ?_
  refine g_if_eq (pc := 8) X 13 dX9_orphansIf_8 (by decide) (by omega) (fun c8 => ?_) (fun c8 => ?_)
  · skip
    refine g_iconst (pc := 13) X dX9_orphansIf_13 ?_
    refine g_istore (pc := 14) (lv' := [(4, _), (3, _), (0, _), (1, _), (2, _)]) X dX9_orphansIf_14 (by decide) rfl ?_
    refine g_iconst (pc := 16) X dX9_orphansIf_16 ?_
    refine g_istore (pc := 17) (lv' := [(5, _), (4, _), (3, _), (0, _), (1, _), (2, _)]) X dX9_orphansIf_17 (by decide) rfl ?_
    refine g_iconst (pc := 19) X dX9_orphansIf_19 ?_
    refine g_istore (pc := 20) (lv' := [(6, _), (5, _), (4, _), (3, _), (0, _), (1, _), (2, _)]) X dX9_orphansIf_20 (by decide) rfl ?_
    have hL22 : ∀ (fu : Nat) (k : Nat) (ki : Int) (u w : Nat), (f 0).toNat - k < fu → (ki = (k : Int)) → ((k : Int) ≤ f 0) → (orI f a b k = (u, w)) → (u < 65536 ∧ w < 65536) → G K 0 0 H 22 [(0, .ref y), (1, .int (J a)), (2, .int (J b)), (4, .int (J (u : Int))), (5, .int (J (w : Int))), (6, .int (J ki))] [] := by
      intro fu
      induction fu with
      | zero => intro k ki u w hm; exact absurd hm (Nat.not_lt_zero _)
      | succ fu ih22 =>
        intro k ki u w hm he h1 hB hub
        subst he
        refine g_iload (pc := 22) (pl := 5) X dX9_orphansIf_22 rfl ?_
        refine g_aload_n (pc := 24) (pl := 0) X dX9_orphansIf_24 rfl ?_
        refine g_getf (pc := 25) X zF_X9_orphansIf_7 hO rfl dX9_orphansIf_25 ?_
        refine g_iconst (pc := 28) X dX9_orphansIf_28 ?_
        refine g_iaload (pc := 29) X hNw (by omega) (by omega) (by omega) dX9_orphansIf_29 ?_
        refine g_icmp_ge (pc := 30) X 97 dX9_orphansIf_30 (by decide) (by omega) (by omega) (fun c30 => ?_) (fun c30 => ?_)
        · skip
          refine g_iload (pc := 97) (pl := 3) X dX9_orphansIf_97 rfl ?_
          refine g_iload (pc := 99) (pl := 4) X dX9_orphansIf_99 rfl ?_
          refine g_iconst (pc := 101) X dX9_orphansIf_101 ?_
          refine g_ixor (pc := 102) (z := J (w : Int) ^^^ J (-1)) X dX9_orphansIf_102 rfl ?_
          refine g_iand (pc := 103) (z := J ((u &&& (65535 ^^^ w) : Nat) : Int)) X dX9_orphansIf_103 ((J_andn (by omega) (by omega)).trans (by rw [Int.toNat_natCast, Int.toNat_natCast])) ?_
          refine g_iret (pc := 104) X R hH dX9_orphansIf_104 ?_
          have ek : (f 0).toNat = k := by omega
          have eo : ors f a b = ((u &&& (65535 ^^^ w) : Nat) : Int) := by unfold ors; rw [ek, hB]
          exact ⟨rfl, (if_neg (by omega)).trans eo⟩
        · skip
          refine g_iload (pc := 33) (pl := 3) X dX9_orphansIf_33 rfl ?_
          refine g_iload (pc := 35) (pl := 5) X dX9_orphansIf_35 rfl ?_
          refine g_iload_n (pc := 37) (pl := 1) X dX9_orphansIf_37 rfl ?_
          refine g_iload_n (pc := 38) (pl := 2) X dX9_orphansIf_38 rfl ?_
          refine gJi (pc := 39) (n2 := 0) (k2 := 0) X cs_X9_orphansIf_41 (c_X9_in (zl K) D base (k : Int) a b (by omega) (by omega) (by omega)) rfl (by have := hO.lt; omega) trivial rfl ⟨Nat.le_of_ble_eq_true rfl, Nat.le_of_ble_eq_true rfl⟩ dX9_orphansIf_39 (Nat.le_of_ble_eq_true rfl) rfl rfl (fun v39 H1 hp39 hs39 => ?_)
          obtain ⟨rfl, rfl⟩ := hp39
          refine g_if_eq (pc := 42) X 58 dX9_orphansIf_42 (by decide) (zbr _) (fun c42 => ?_) (fun c42 => ?_)
          · skip
            replace c42 := zb0 c42
            refine g_iconst (pc := 58) X dX9_orphansIf_58 ?_
            refine g_ior (pc := 59) (z := J (u : Int)) X dX9_orphansIf_59 ((J_or (by first | exact Int.natCast_nonneg _ | exact Int.ofNat_nonneg _) (by omega)).trans (by rw [Int.toNat_natCast]; show J ((u ||| 0 : Nat) : Int) = _; rw [Nat.or_zero])) ?_
            refine g_istore (pc := 60) (lv' := [(4, _), (0, _), (1, _), (2, _), (5, _), (6, _)]) X dX9_orphansIf_60 (by decide) rfl ?_
            refine g_iload (pc := 62) (pl := 4) X dX9_orphansIf_62 rfl ?_
            refine g_iload (pc := 64) (pl := 5) X dX9_orphansIf_64 rfl ?_
            refine g_iload_n (pc := 66) (pl := 2) X dX9_orphansIf_66 rfl ?_
            refine g_iload_n (pc := 67) (pl := 3) X dX9_orphansIf_67 rfl ?_
            refine gJi (pc := 68) (n2 := 0) (k2 := 0) X cs_X9_orphansIf_41 (c_X9_in (zl K) D base (k : Int) a b (by omega) (by omega) (by omega)) rfl (by have := hO.lt; omega) trivial rfl ⟨Nat.le_of_ble_eq_true rfl, Nat.le_of_ble_eq_true rfl⟩ dX9_orphansIf_68 (Nat.le_of_ble_eq_true rfl) rfl rfl (fun v68 H1 hp68 hs68 => ?_)
            obtain ⟨rfl, rfl⟩ := hp68
            refine g_if_eq (pc := 71) X 78 dX9_orphansIf_71 (by decide) (zbr _) (fun c71 => ?_) (fun c71 => ?_)
            · skip
              replace c71 := zb0 c71
              refine g_aload_n (pc := 78) (pl := 1) X dX9_orphansIf_78 rfl ?_
              refine g_getf (pc := 79) X zF_X9_orphansIf_7 hO rfl dX9_orphansIf_79 ?_
              refine g_bipush (pc := 82) X dX9_orphansIf_82 (by decide +kernel) ?_
              refine g_iload (pc := 84) (pl := 5) X dX9_orphansIf_84 rfl ?_
              refine g_iadd (pc := 86) X dX9_orphansIf_86 ?_
              have how := hI.own (k : Int) (by omega) (by omega)
              have how2 : 0 ≤ f (65 + (k : Int)) ∧ f (65 + (k : Int)) < 65536 := how
              refine g_iaload (pc := 87) X hNw (by omega) (by omega) (by omega) dX9_orphansIf_87 ?_
              refine g_ior (pc := 88) (z := J ((w ||| (f (65 + (k : Int))).toNat : Nat) : Int)) X dX9_orphansIf_88 ((J_or (by first | exact Int.natCast_nonneg _ | exact Int.ofNat_nonneg _) (by omega)).trans (by rw [Int.toNat_natCast])) ?_
              refine g_istore (pc := 89) (lv' := [(5, _), (4, _), (0, _), (1, _), (2, _), (6, _)]) X dX9_orphansIf_89 (by decide) rfl ?_
              refine g_iinc (pc := 91) (pl := 5) (x := (k : Int)) (lv' := [(6, _), (5, _), (4, _), (0, _), (1, _), (2, _)]) X dX9_orphansIf_91 rfl (by decide) rfl ?_
              refine g_goto (pc := 94) X 22 dX9_orphansIf_94 (by decide) ?_
              refine G.pick [3, 4, 5, 2, 1, 0] (lv' := [(0, _), (1, _), (2, _), (4, _), (5, _), (6, _)]) rfl ?_
              exact ih22 (k + 1) _ _ _ (by omega) (by omega) (by omega) (orI_no hB (by omega)) ⟨hub.1, or_lt hub.2 (by omega)⟩
            · skip
              replace c71 := zb1 c71
              refine g_iconst (pc := 74) X dX9_orphansIf_74 ?_
              refine g_goto (pc := 75) X 88 dX9_orphansIf_75 (by decide) ?_
              refine g_ior (pc := 88) (z := J (w : Int)) X dX9_orphansIf_88 ((J_or (by first | exact Int.natCast_nonneg _ | exact Int.ofNat_nonneg _) (by omega)).trans (by rw [Int.toNat_natCast]; show J ((w ||| 0 : Nat) : Int) = _; rw [Nat.or_zero])) ?_
              refine g_istore (pc := 89) (lv' := [(5, _), (4, _), (0, _), (1, _), (2, _), (6, _)]) X dX9_orphansIf_89 (by decide) rfl ?_
              refine g_iinc (pc := 91) (pl := 5) (x := (k : Int)) (lv' := [(6, _), (5, _), (4, _), (0, _), (1, _), (2, _)]) X dX9_orphansIf_91 rfl (by decide) rfl ?_
              refine g_goto (pc := 94) X 22 dX9_orphansIf_94 (by decide) ?_
              refine G.pick [3, 4, 5, 2, 1, 0] (lv' := [(0, _), (1, _), (2, _), (4, _), (5, _), (6, _)]) rfl ?_
              exact ih22 (k + 1) _ _ _ (by omega) (by omega) (by omega) (absurd c42 (by omega)) (absurd c42 (by omega))
          · skip
            replace c42 := zb1 c42
            refine g_aload_n (pc := 45) (pl := 0) X dX9_orphansIf_45 rfl ?_
            refine g_getf (pc := 46) X zF_X9_orphansIf_7 hO rfl dX9_orphansIf_46 ?_
            refine g_bipush (pc := 49) X dX9_orphansIf_49 (by decide +kernel) ?_
            refine g_iload (pc := 51) (pl := 5) X dX9_orphansIf_51 rfl ?_
            refine g_iadd (pc := 53) X dX9_orphansIf_53 ?_
            have how := hI.own (k : Int) (by omega) (by omega)
            have how2 : 0 ≤ f (65 + (k : Int)) ∧ f (65 + (k : Int)) < 65536 := how
            refine g_iaload (pc := 54) X hNw (by omega) (by omega) (by omega) dX9_orphansIf_54 ?_
            refine g_goto (pc := 55) X 59 dX9_orphansIf_55 (by decide) ?_
            refine g_ior (pc := 59) (z := J ((u ||| (f (65 + (k : Int))).toNat : Nat) : Int)) X dX9_orphansIf_59 ((J_or (by first | exact Int.natCast_nonneg _ | exact Int.ofNat_nonneg _) (by omega)).trans (by rw [Int.toNat_natCast])) ?_
            refine g_istore (pc := 60) (lv' := [(4, _), (0, _), (1, _), (2, _), (5, _), (6, _)]) X dX9_orphansIf_60 (by decide) rfl ?_
            refine g_iload (pc := 62) (pl := 4) X dX9_orphansIf_62 rfl ?_
            refine g_iload (pc := 64) (pl := 5) X dX9_orphansIf_64 rfl ?_
            refine g_iload_n (pc := 66) (pl := 2) X dX9_orphansIf_66 rfl ?_
            refine g_iload_n (pc := 67) (pl := 3) X dX9_orphansIf_67 rfl ?_
            refine gJi (pc := 68) (n2 := 0) (k2 := 0) X cs_X9_orphansIf_41 (c_X9_in (zl K) D base (k : Int) a b (by omega) (by omega) (by omega)) rfl (by have := hO.lt; omega) trivial rfl ⟨Nat.le_of_ble_eq_true rfl, Nat.le_of_ble_eq_true rfl⟩ dX9_orphansIf_68 (Nat.le_of_ble_eq_true rfl) rfl rfl (fun v68 H1 hp68 hs68 => ?_)
            obtain ⟨rfl, rfl⟩ := hp68
            refine g_if_eq (pc := 71) X 78 dX9_orphansIf_71 (by decide) (zbr _) (fun c71 => ?_) (fun c71 => ?_)
            · skip
              replace c71 := zb0 c71
              refine g_aload_n (pc := 78) (pl := 1) X dX9_orphansIf_78 rfl ?_
              refine g_getf (pc := 79) X zF_X9_orphansIf_7 hO rfl dX9_orphansIf_79 ?_
              refine g_bipush (pc := 82) X dX9_orphansIf_82 (by decide +kernel) ?_
              refine g_iload (pc := 84) (pl := 5) X dX9_orphansIf_84 rfl ?_
              refine g_iadd (pc := 86) X dX9_orphansIf_86 ?_
              have how := hI.own (k : Int) (by omega) (by omega)
              have how2 : 0 ≤ f (65 + (k : Int)) ∧ f (65 + (k : Int)) < 65536 := how
              refine g_iaload (pc := 87) X hNw (by omega) (by omega) (by omega) dX9_orphansIf_87 ?_
              refine g_ior (pc := 88) (z := J ((w ||| (f (65 + (k : Int))).toNat : Nat) : Int)) X dX9_orphansIf_88 ((J_or (by first | exact Int.natCast_nonneg _ | exact Int.ofNat_nonneg _) (by omega)).trans (by rw [Int.toNat_natCast])) ?_
              refine g_istore (pc := 89) (lv' := [(5, _), (4, _), (0, _), (1, _), (2, _), (6, _)]) X dX9_orphansIf_89 (by decide) rfl ?_
              refine g_iinc (pc := 91) (pl := 5) (x := (k : Int)) (lv' := [(6, _), (5, _), (4, _), (0, _), (1, _), (2, _)]) X dX9_orphansIf_91 rfl (by decide) rfl ?_
              refine g_goto (pc := 94) X 22 dX9_orphansIf_94 (by decide) ?_
              refine G.pick [3, 4, 5, 2, 1, 0] (lv' := [(0, _), (1, _), (2, _), (4, _), (5, _), (6, _)]) rfl ?_
              exact ih22 (k + 1) _ _ _ (by omega) (by omega) (by omega) (absurd c42 (by omega)) (absurd c42 (by omega))
            · skip
              replace c71 := zb1 c71
              refine g_iconst (pc := 74) X dX9_orphansIf_74 ?_
              refine g_goto (pc := 75) X 88 dX9_orphansIf_75 (by decide) ?_
              refine g_ior (pc := 88) (z := J (w : Int)) X dX9_orphansIf_88 ((J_or (by first | exact Int.natCast_nonneg _ | exact Int.ofNat_nonneg _) (by omega)).trans (by rw [Int.toNat_natCast]; show J ((w ||| 0 : Nat) : Int) = _; rw [Nat.or_zero])) ?_
              refine g_istore (pc := 89) (lv' := [(5, _), (4, _), (0, _), (1, _), (2, _), (6, _)]) X dX9_orphansIf_89 (by decide) rfl ?_
              refine g_iinc (pc := 91) (pl := 5) (x := (k : Int)) (lv' := [(6, _), (5, _), (4, _), (0, _), (1, _), (2, _)]) X dX9_orphansIf_91 rfl (by decide) rfl ?_
              refine g_goto (pc := 94) X 22 dX9_orphansIf_94 (by decide) ?_
              refine G.pick [3, 4, 5, 2, 1, 0] (lv' := [(0, _), (1, _), (2, _), (4, _), (5, _), (6, _)]) rfl ?_
              exact ih22 (k + 1) _ _ _ (by omega) (by omega) (by omega) (orI_yes hB (by omega)) ⟨or_lt hub.1 (by omega), hub.2⟩
    refine G.pick [4, 5, 6, 2, 1, 0] (lv' := [(0, _), (1, _), (2, _), (4, _), (5, _), (6, _)]) rfl ?_
    exact hL22 _ 0 _ 0 0 (Nat.lt_succ_self _) rfl (by omega) rfl (by omega)
  · skip
    refine g_iload_n (pc := 11) (pl := 0) X dX9_orphansIf_11 rfl ?_
    refine g_iret (pc := 12) X R hH dX9_orphansIf_12 ?_
    exact ⟨rfl, if_pos (by omega)⟩

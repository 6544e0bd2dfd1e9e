/-- lines and own lines as the printing has them -/
def LyI (f : Int → Int) (L W : Int → Int) (S : PS) : Prop := (∀ i : Int, 0 ≤ i → i < f 1 → L i = S.2.1 i) ∧ ∀ i : Int, 0 ≤ i → i < f 1 → ¬ L i = -6 → S.2.2 i = L i - W i ∧ 0 ≤ W i ∧ W i ≤ 60
theorem LyI.up' {f L W : Int → Int} {S : PS} {n v o : Int} {U : Int → Int} (h : LyI f L W S) (hv : 0 ≤ v) (ho : 0 ≤ o ∧ o ≤ 60) : LyI f (up L n v) (up W n o) (U, up S.2.1 n v, up S.2.2 n (v - o)) := by
  obtain ⟨h1, h2⟩ := h
  refine ⟨fun i i0 i1 => ?_, fun i i0 i1 hi => ?_⟩
  · by_cases c : i = n
    · exact (if_pos c).trans (if_pos c).symm
    · exact (if_neg c).trans ((h1 i i0 i1).trans (if_neg c).symm)
  · by_cases c : i = n
    · have e1 : up L n v i = v := if_pos c
      have e2 : up W n o i = o := if_pos c
      have e3 : up S.2.2 n (v - o) i = v - o := if_pos c
      show up S.2.2 n (v - o) i = _ ∧ _
      rw [e1, e2, e3]
      exact ⟨rfl, ho⟩
    · have e1 : up L n v i = L i := if_neg c
      have e2 : up W n o i = W i := if_neg c
      have e3 : up S.2.2 n (v - o) i = S.2.2 i := if_neg c
      show up S.2.2 n (v - o) i = _ ∧ _
      rw [e1] at hi
      rw [e1, e2, e3]
      exact h2 i i0 i1 hi
theorem mxL_congr {L L' : Int → Int} : ∀ k : Nat, (∀ i : Int, 0 ≤ i → i < k → L i = L' i) → mxL L k = mxL L' k
  | 0, _ => rfl
  | k + 1, h => by
    rw [mxL_s, mxL_s, mxL_congr k (fun i i0 i1 => h i i0 (by omega)), h k (by omega) (by omega)]
theorem mxE_congr {L L' E E' : Int → Int} : ∀ k : Nat, (∀ i : Int, 0 ≤ i → i < k → ldr L E i = ldr L' E' i) → mxE L E k = mxE L' E' k
  | 0, _ => rfl
  | k + 1, h => by
    rw [mxE_s, mxE_s, mxE_congr k (fun i i0 i1 => h i i0 (by omega)), h k (by omega) (by omega)]
theorem sumI_congr {P P' : Int → Int} : ∀ k : Nat, (∀ i : Int, 0 ≤ i → i < k → P i = P' i) → sumI P k = sumI P' k
  | 0, _ => rfl
  | k + 1, h => by
    simp only [sumI]
    rw [sumI_congr k (fun i i0 i1 => h i i0 (by omega)), h k (by omega) (by omega)]
theorem LyI.ldr' {f L W : Int → Int} {S : PS} (h : LyI f L W S) : ∀ i : Int, 0 ≤ i → i < ((f 1).toNat : Int) → ldr L (fun i => L i - W i) i = ldr S.2.1 S.2.2 i := fun i i0 i1 => by
  have h1 := h.1 i i0 (by omega)
  have h2 := h.2 i i0 (by omega)
  unfold ldr
  rw [← h1]
  by_cases c : L i = -6
  · rw [if_pos c, if_pos c]
  · rw [if_neg c, if_neg c, (h2 c).1]
theorem LyI.bds {f L W : Int → Int} {S : PS} {p : Int} (h : LyI f L W S) (hk : PrOk f p 0 S) : (∀ i : Int, 0 ≤ i → i < f 1 → -6 ≤ L i ∧ L i ≤ 100) ∧ (∀ i : Int, 0 ≤ i → i < f 1 → 0 ≤ W i ∧ W i ≤ 100 ∨ L i = -6) ∧ ∀ i : Int, 0 ≤ i → i < f 1 → ¬ L i = -6 → W i ≤ L i := by
  obtain ⟨-, -, -, k3, k4⟩ := hk
  refine ⟨fun i i0 i1 => ?_, fun i i0 i1 => ?_, fun i i0 i1 c => ?_⟩
  · have h1 := h.1 i i0 i1
    by_cases c : S.2.1 i = -6
    · omega
    · have := k3 i c
      omega
  · by_cases c : L i = -6
    · exact Or.inr c
    · have := h.2 i i0 i1 c
      omega
  · have h1 := h.1 i i0 i1
    have h2 := h.2 i i0 i1 c
    have := k3 i (by omega)
    omega
theorem lns_eq {f : Int → Int} (hI : PInv f) : (f 0 + f 3 - 1) / f 3 = lns f := by
  have hn := hI.nums
  unfold lns
  by_cases c : f 0 = 0
  · rw [if_pos c, c]
    exact Int.ediv_eq_zero_of_lt (by omega) (by omega)
  · rw [if_neg c, show f 0 + f 3 - 1 = f 0 - 1 + 1 * f 3 by omega, Int.add_mul_ediv_right _ _ (by omega)]

abbrev rm_X9_prints : Room := { frames := 2, cells := 0, slots := 0, locals := 46 }
theorem zF_X9_prints_7 : zF RX9 wsX9_prints 9 0 7 := ⟨RX9, TX9, 17, rfl, by decide +kernel, by decide, by decide +kernel⟩
theorem cs_X9_prints_81 : zCV RX9 wsX9_prints 81 9 yX9_finds wsX9_finds cX9_finds 5 none rm_X9_prints rm_X9_finds 1 := ⟨_, _, gX9_prints_X9_finds, rfl, ⟨by decide +kernel, by decide +kernel, by decide +kernel⟩, ⟨Nat.le_of_ble_eq_true rfl, Nat.le_of_ble_eq_true rfl⟩, rfl, rfl⟩
theorem zF_X9_prints_75 : zF RX9 wsX9_prints 9 10 75 := ⟨RX9, TX9, 17, rfl, by decide +kernel, by decide, by decide +kernel⟩
theorem zF_X9_prints_32 : zF RX9 wsX9_prints 9 14 32 := ⟨RX9, TX9, 17, rfl, by decide +kernel, by decide, by decide +kernel⟩
theorem zF_X9_prints_35 : zF RX9 wsX9_prints 9 15 35 := ⟨RX9, TX9, 17, rfl, by decide +kernel, by decide, by decide +kernel⟩
theorem zF_X9_prints_29 : zF RX9 wsX9_prints 9 13 29 := ⟨RX9, TX9, 17, rfl, by decide +kernel, by decide, by decide +kernel⟩
set_option maxRecDepth 100000 in
theorem c_X9_prints (l : Launch) (D : zD) (base : Nat) (y : Nat) (kp pd at' od fi la pc : Int) (f : Int → Int) (L W Q : Int → Int) (room : Int) (hq : base ≤ y) (hI : PInv f) (hr : 1 ≤ room ∧ rg room) : Ct l yX9_prints wsX9_prints rm_X9_prints D base [.ref y, .int (J room)] (fun H => MoO D y kp pd at' od fi la pc H ∧ NwAt D y f H ∧ Ia D (y + 7) 16 L H ∧ Ia D (y + 8) 16 W H ∧ Ia D (y + 9) 80 Q H) (PV (fun H H1 => MoE D y kp pd H1 ∧ NwAt D y f H1 ∧ (∃ L2 W2 : Int → Int, LyI f L2 W2 (prA f room (f 0).toNat) ∧ Ia D (y + 7) 16 L2 H1 ∧ Ia D (y + 8) 16 W2 H1) ∧ (∃ Q2 : Int → Int, Ia D (y + 9) 80 Q2 H1) ∧ Fr (Un y (y + 1) (y + 7) (y + 10)) 0 H H1)) := by
  refine Ct.of (own := RX9) (cc := cX9_prints) (maxL := 5) (by decide +kernel) rfl (Nat.le_of_ble_eq_true rfl) rfl ?_
  intro K H X R hH hnm hP
  show G K 0 0 H 0 [(0, .ref y), (1, .int (J room))] []
  obtain ⟨hO, hNw, hLn, hOw, hFu⟩ := hP
  have hnum := hI.nums
  refine g_iconst (pc := 0) X dX9_prints_0 ?_
  refine g_istore_n (pc := 1) (lv' := [(2, _), (0, _), (1, _)]) X dX9_prints_1 (by decide) rfl ?_
  have hL2 : ∀ (fu : Nat) (x : Int) (Q1 : Int → Int) (Hx : Heap), (80 - x).toNat < fu → (0 ≤ x ∧ x ≤ 80) → (∀ i : Int, 0 ≤ i → i < x → Q1 i = 0) → (MoO D y kp pd at' od fi la pc Hx) → (NwAt D y f Hx) → (Ia D (y + 7) 16 L Hx) → (Ia D (y + 8) 16 W Hx) → (Ia D (y + 9) 80 Q1 Hx) → (Fr (Un y (y + 1) (y + 7) (y + 10)) 0 H Hx) → G K 0 0 Hx 2 [(0, .ref y), (1, .int (J room)), (2, .int (J x))] [] := by
    intro fu
    induction fu with
    | zero => intro x Q1 Hx hm; exact absurd hm (Nat.not_lt_zero _)
    | succ fu ih2 =>
      intro x Q1 Hx hm hx hz hO hNw hLn hOw hFu hu3
      refine g_iload_n (pc := 2) (pl := 2) X dX9_prints_2 rfl ?_
      refine g_bipush (pc := 3) X dX9_prints_3 (by decide +kernel) ?_
      refine g_icmp_ge (pc := 5) X 21 dX9_prints_5 (by decide) (by omega) (by omega) (fun c5 => ?_) (fun c5 => ?_)
      · skip
        refine g_iconst (pc := 21) X dX9_prints_21 ?_
        refine g_istore_n (pc := 22) (lv' := [(2, _), (0, _), (1, _)]) X dX9_prints_22 (by decide) rfl ?_
        have hL23 : ∀ (fu : Nat) (x : Int) (L1 : Int → Int) (Hx : Heap), (f 1 - x).toNat < fu → (0 ≤ x ∧ x ≤ f 1) → (∀ i : Int, 0 ≤ i → i < x → L1 i = -6) → (MoO D y kp pd at' od fi la pc Hx) → (NwAt D y f Hx) → (Ia D (y + 7) 16 L1 Hx) → (Ia D (y + 8) 16 W Hx) → (Ia D (y + 9) 80 (fun _ => 0) Hx) → (Fr (Un y (y + 1) (y + 7) (y + 10)) 0 H Hx) → G K 0 0 Hx 23 [(0, .ref y), (1, .int (J room)), (2, .int (J x))] [] := by
          intro fu
          induction fu with
          | zero => intro x L1 Hx hm; exact absurd hm (Nat.not_lt_zero _)
          | succ fu ih23 =>
            intro x L1 Hx hm hx2 hz2 hO hNw hLn hOw hFu hu4
            refine g_iload_n (pc := 23) (pl := 2) X dX9_prints_23 rfl ?_
            refine g_aload_n (pc := 24) (pl := 0) X dX9_prints_24 rfl ?_
            refine g_getf (pc := 25) X zF_X9_prints_7 hO rfl dX9_prints_25 ?_
            refine g_iconst (pc := 28) X dX9_prints_28 ?_
            refine g_iaload (pc := 29) X hNw (by omega) (by omega) (by omega) dX9_prints_29 ?_
            refine g_icmp_ge (pc := 30) X 47 dX9_prints_30 (by decide) (by omega) (by omega) (fun c30 => ?_) (fun c30 => ?_)
            · skip
              refine g_iconst (pc := 47) X dX9_prints_47 ?_
              refine g_istore_n (pc := 48) (lv' := [(2, _), (0, _), (1, _)]) X dX9_prints_48 (by decide) rfl ?_
              have hL49 : ∀ (fu : Nat) (p : Nat) (pi : Int) (S : PS) (L1 W1 : Int → Int) (fi1 la1 pc1 : Int) (Hx : Heap), (f 0).toNat - p < fu → (pi = (p : Int)) → ((p : Int) ≤ f 0) → (prA f room p = S) → (PrOk f (p : Int) 0 S) → (LyI f L1 W1 S) → (MoO D y kp pd at' od fi1 la1 pc1 Hx) → (NwAt D y f Hx) → (Ia D (y + 7) 16 L1 Hx) → (Ia D (y + 8) 16 W1 Hx) → (Ia D (y + 9) 80 S.1 Hx) → (Fr (Un y (y + 1) (y + 7) (y + 10)) 0 H Hx) → G K 0 0 Hx 49 [(0, .ref y), (1, .int (J room)), (2, .int (J pi))] [] := by
                intro fu
                induction fu with
                | zero => intro p pi S L1 W1 fi1 la1 pc1 Hx hm; exact absurd hm (Nat.not_lt_zero _)
                | succ fu ih49 =>
                  intro p pi S L1 W1 fi1 la1 pc1 Hx hm he h1 hS0 hPk hLy hO hNw hLn hOw hFu hu5
                  subst he
                  refine g_iload_n (pc := 49) (pl := 2) X dX9_prints_49 rfl ?_
                  refine g_aload_n (pc := 50) (pl := 0) X dX9_prints_50 rfl ?_
                  refine g_getf (pc := 51) X zF_X9_prints_7 hO rfl dX9_prints_51 ?_
                  refine g_iconst (pc := 54) X dX9_prints_54 ?_
                  refine g_iaload (pc := 55) X hNw (by omega) (by omega) (by omega) dX9_prints_55 ?_
                  refine g_icmp_ge (pc := 56) X 154 dX9_prints_56 (by decide) (by omega) (by omega) (fun c56 => ?_) (fun c56 => ?_)
                  · skip
                    refine g_vret (pc := 154) X R hH dX9_prints_154 ?_
                    have ep : (f 0).toNat = p := by omega
                    rw [ep, hS0]
                    exact ⟨⟨_, _, _, _, _, hO⟩, hNw, ⟨_, _, hLy, hLn, hOw⟩, ⟨_, hFu⟩, hu5⟩
                  · skip
                    refine g_iconst (pc := 59) X dX9_prints_59 ?_
                    refine g_istore_n (pc := 60) (lv' := [(3, _), (0, _), (1, _), (2, _)]) X dX9_prints_60 (by decide) rfl ?_
                    have hL61 : ∀ (fu : Nat) (m : Nat) (mi : Int) (S : PS) (L1 W1 : Int → Int) (fi1 la1 pc1 : Int) (Hx : Heap), (f 1).toNat - m < fu → (mi = (m : Int)) → ((m : Int) ≤ f 1) → (prP f room (p : Int) m (prA f room p) = S) → (PrOk f (p : Int) (m : Int) S) → (LyI f L1 W1 S) → (MoO D y kp pd at' od fi1 la1 pc1 Hx) → (NwAt D y f Hx) → (Ia D (y + 7) 16 L1 Hx) → (Ia D (y + 8) 16 W1 Hx) → (Ia D (y + 9) 80 S.1 Hx) → (Fr (Un y (y + 1) (y + 7) (y + 10)) 0 H Hx) → G K 0 0 Hx 61 [(0, .ref y), (1, .int (J room)), (2, .int (J (p : Int))), (3, .int (J mi))] [] := by
                      intro fu
                      induction fu with
                      | zero => intro m mi S L1 W1 fi1 la1 pc1 Hx hm; exact absurd hm (Nat.not_lt_zero _)
                      | succ fu ih61 =>
                        intro m mi S L1 W1 fi1 la1 pc1 Hx hm he2 h2 hS2 hPk hLy hO hNw hLn hOw hFu hu6
                        subst he2
                        refine g_iload_n (pc := 61) (pl := 3) X dX9_prints_61 rfl ?_
                        refine g_aload_n (pc := 62) (pl := 0) X dX9_prints_62 rfl ?_
                        refine g_getf (pc := 63) X zF_X9_prints_7 hO rfl dX9_prints_63 ?_
                        refine g_iconst (pc := 66) X dX9_prints_66 ?_
                        refine g_iaload (pc := 67) X hNw (by omega) (by omega) (by omega) dX9_prints_67 ?_
                        refine g_icmp_ge (pc := 68) X 148 dX9_prints_68 (by decide) (by omega) (by omega) (fun c68 => ?_) (fun c68 => ?_)
                        · skip
                          refine g_iinc (pc := 148) (pl := 2) (x := (p : Int)) (lv' := [(2, _), (0, _), (1, _), (3, _)]) X dX9_prints_148 rfl (by decide) rfl ?_
                          refine g_goto (pc := 151) X 49 dX9_prints_151 (by decide) ?_
                          refine G.pick [1, 2, 0] (lv' := [(0, _), (1, _), (2, _)]) rfl ?_
                          have em : (f 1).toNat = m := by omega
                          have hA1 : prA f room (p + 1) = S := by show prP f room (p : Int) (f 1).toNat (prA f room p) = S; rw [em]; exact hS2
                          exact ih49 (p + 1) _ S L1 W1 fi1 la1 pc1 Hx (by omega) (by omega) (by omega) hA1 (hPk.next (by omega)) hLy hO hNw hLn hOw hFu hu6
                        · skip
                          refine g_aload_n (pc := 71) (pl := 0) X dX9_prints_71 rfl ?_
                          refine g_iload_n (pc := 72) (pl := 3) X dX9_prints_72 rfl ?_
                          refine gVv (pc := 73) (n2 := 0) (k2 := 0) X cs_X9_prints_81 (c_X9_finds (zl K) D base y kp pd at' od fi1 la1 pc1 f (m : Int) hq hI (by omega)) rfl hO (by omega) ⟨hO, hNw⟩ rfl ⟨Nat.le_of_ble_eq_true rfl, Nat.le_of_ble_eq_true rfl⟩ dX9_prints_73 (Nat.le_of_ble_eq_true rfl) rfl rfl (fun H1 hp73 hs73 => ?_)
                          obtain ⟨hOn, hNwn, hff⟩ := hp73
                          replace hLn := hLn.fr hff (by omega)
                          replace hOw := hOw.fr hff (by omega)
                          replace hFu := hFu.fr hff (by omega)
                          clear hO hNw
                          have hO := hOn
                          have hNw := hNwn
                          clear hOn hNwn
                          have hsb := nt_bd f (m : Int)
                          refine g_aload_n (pc := 76) (pl := 0) X dX9_prints_76 rfl ?_
                          refine g_getf (pc := 77) X zF_X9_prints_75 hO rfl dX9_prints_77 ?_
                          refine g_iload_n (pc := 80) (pl := 2) X dX9_prints_80 rfl ?_
                          refine g_icmp_ne (pc := 81) X 142 dX9_prints_81 (by decide) (by omega) (by omega) (fun c81 => ?_) (fun c81 => ?_)
                          · skip
                            have hPN : prN f room (p : Int) (m : Int) S = S := if_neg c81
                            refine g_iinc (pc := 142) (pl := 3) (x := (m : Int)) (lv' := [(3, _), (0, _), (1, _), (2, _)]) X dX9_prints_142 rfl (by decide) rfl ?_
                            refine g_goto (pc := 145) X 61 dX9_prints_145 (by decide) ?_
                            refine G.pick [1, 2, 3, 0] (lv' := [(0, _), (1, _), (2, _), (3, _)]) rfl ?_
                            have hPk2 := hPk.step hI (by omega) (by omega) hr.1
                            have hS3 : prP f room (p : Int) (m + 1) (prA f room p) = prN f room (p : Int) (m : Int) S := by show prN f room (p : Int) (m : Int) (prP f room (p : Int) m (prA f room p)) = _; rw [hS2]
                            rw [hPN] at hPk2 hS3
                            exact ih61 (m + 1) _ _ _ _ _ _ _ H1 (by omega) (by omega) (by omega) hS3 hPk2 hLy hO hNw hLn hOw hFu (Fr.trans hu6 (hff.un (by omega)))
                          · skip
                            have hfn : ntF f (m : Int) = (p : Int) := by omega
                            have hln := hPk.line hI (by omega) (by omega) hfn hr.1
                            obtain ⟨y0, hy0⟩ : ∃ z, flin S.1 room 76 ((p : Int) / f 3) = z := ⟨_, rfl⟩
                            rw [hy0] at hln
                            have hus := hPk.used
                            obtain ⟨b1, b2, b3, b4⟩ := flin_spec S.1 room 76 ((p : Int) / f 3)
                            rw [hy0] at b1 b2 b3 b4
                            have hPN : prN f room (p : Int) (m : Int) S = (up S.1 y0 (S.1 y0 + 1), up S.2.1 (m : Int) y0, up S.2.2 (m : Int) (y0 - (p : Int) / f 3)) := by unfold prN; rw [if_pos hfn, hy0]
                            obtain ⟨o9, ho9⟩ : ∃ z, (p : Int) / f 3 = z := ⟨_, rfl⟩
                            rw [ho9] at hln b1 b2 b3 hPN
                            refine g_aload_n (pc := 84) (pl := 0) X dX9_prints_84 rfl ?_
                            refine g_getf (pc := 85) X zF_X9_prints_32 hO rfl dX9_prints_85 ?_
                            refine g_iload_n (pc := 88) (pl := 3) X dX9_prints_88 rfl ?_
                            refine g_iload_n (pc := 89) (pl := 2) X dX9_prints_89 rfl ?_
                            refine g_aload_n (pc := 90) (pl := 0) X dX9_prints_90 rfl ?_
                            refine g_getf (pc := 91) X zF_X9_prints_7 hO rfl dX9_prints_91 ?_
                            refine g_iconst (pc := 94) X dX9_prints_94 ?_
                            refine g_iaload (pc := 95) X hNw (by omega) (by omega) (by omega) dX9_prints_95 ?_
                            refine g_idiv (pc := 96) (z := J o9) X dX9_prints_96 (fun z => by have q := (J_inj (a := f 3) (b := 0) (by omega) (by omega)).mp z; omega) ((J_div (by omega) (by omega)).trans (by rw [ho9])) ?_
                            refine g_iastore (pc := 97) X hOw (by omega) (by omega) (by omega) (by omega) dX9_prints_97 (fun H2 hOwn hf2 => ?_)
                            replace hO := hO.fr hf2 (by omega)
                            replace hNw := hNw.fr hf2 (by omega)
                            replace hLn := hLn.fr hf2 (by omega)
                            replace hFu := hFu.fr hf2 (by omega)
                            replace hOw := hOwn
                            clear hOwn
                            refine g_aload_n (pc := 98) (pl := 0) X dX9_prints_98 rfl ?_
                            refine g_getf (pc := 99) X zF_X9_prints_32 hO rfl dX9_prints_99 ?_
                            refine g_iload_n (pc := 102) (pl := 3) X dX9_prints_102 rfl ?_
                            refine g_iaload (pc := 103) X hOw (by omega) (by omega) (by omega) dX9_prints_103 ?_
                            rw [show (up W1 (m : Int) o9) (m : Int) = o9 from (if_pos rfl)]
                            refine g_istore (pc := 104) (lv' := [(4, _), (0, _), (1, _), (2, _), (3, _)]) X dX9_prints_104 (by decide) rfl ?_
                            have hL106 : ∀ (fu : Nat) (l : Int), (76 - l).toNat < fu → (o9 ≤ l ∧ l ≤ y0) → G K 0 0 H2 106 [(0, .ref y), (1, .int (J room)), (2, .int (J (p : Int))), (3, .int (J (m : Int))), (4, .int (J l))] [] := by
                              intro fu
                              induction fu with
                              | zero => intro l hm; exact absurd hm (Nat.not_lt_zero _)
                              | succ fu ih106 =>
                                intro l hm hl9
                                refine g_aload_n (pc := 106) (pl := 0) X dX9_prints_106 rfl ?_
                                refine g_getf (pc := 107) X zF_X9_prints_35 hO rfl dX9_prints_107 ?_
                                refine g_iload (pc := 110) (pl := 4) X dX9_prints_110 rfl ?_
                                have hul := hus l
                                refine g_iaload (pc := 112) X hFu (by omega) (by omega) (by omega) dX9_prints_112 ?_
                                refine g_iload_n (pc := 113) (pl := 1) X dX9_prints_113 rfl ?_
                                refine g_icmp_lt (pc := 114) X 123 dX9_prints_114 (by decide) (by omega) (by omega) (fun c114 => ?_) (fun c114 => ?_)
                                · skip
                                  have hly : l = y0 := by rcases Int.lt_or_le l y0 with z | z; exact absurd c114 (b3 l (by omega) z); omega
                                  subst hly
                                  refine g_aload_n (pc := 123) (pl := 0) X dX9_prints_123 rfl ?_
                                  refine g_getf (pc := 124) X zF_X9_prints_35 hO rfl dX9_prints_124 ?_
                                  refine g_iload (pc := 127) (pl := 4) X dX9_prints_127 rfl ?_
                                  refine g_dup2 (pc := 129) X dX9_prints_129 rfl rfl ?_
                                  refine g_iaload (pc := 130) X hFu (by omega) (by omega) (by omega) dX9_prints_130 ?_
                                  refine g_iconst (pc := 131) X dX9_prints_131 ?_
                                  refine g_iadd (pc := 132) X dX9_prints_132 ?_
                                  refine g_iastore (pc := 133) X hFu (by omega) (by omega) (by omega) (by omega) dX9_prints_133 (fun H3 hFun hf3 => ?_)
                                  replace hO := hO.fr hf3 (by omega)
                                  replace hNw := hNw.fr hf3 (by omega)
                                  replace hLn := hLn.fr hf3 (by omega)
                                  replace hOw := hOw.fr hf3 (by omega)
                                  replace hFu := hFun
                                  clear hFun
                                  refine g_aload_n (pc := 134) (pl := 0) X dX9_prints_134 rfl ?_
                                  refine g_getf (pc := 135) X zF_X9_prints_29 hO rfl dX9_prints_135 ?_
                                  refine g_iload_n (pc := 138) (pl := 3) X dX9_prints_138 rfl ?_
                                  refine g_iload (pc := 139) (pl := 4) X dX9_prints_139 rfl ?_
                                  refine g_iastore (pc := 141) X hLn (by omega) (by omega) (by omega) (by omega) dX9_prints_141 (fun H4 hLnn hf4 => ?_)
                                  replace hO := hO.fr hf4 (by omega)
                                  replace hNw := hNw.fr hf4 (by omega)
                                  replace hOw := hOw.fr hf4 (by omega)
                                  replace hFu := hFu.fr hf4 (by omega)
                                  replace hLn := hLnn
                                  clear hLnn
                                  refine g_iinc (pc := 142) (pl := 3) (x := (m : Int)) (lv' := [(3, _), (0, _), (1, _), (2, _), (4, _)]) X dX9_prints_142 rfl (by decide) rfl ?_
                                  refine g_goto (pc := 145) X 61 dX9_prints_145 (by decide) ?_
                                  refine G.pick [1, 2, 3, 0] (lv' := [(0, _), (1, _), (2, _), (3, _)]) rfl ?_
                                  have hPk2 := hPk.step hI (by omega) (by omega) hr.1
                                  have hS3 : prP f room (p : Int) (m + 1) (prA f room p) = prN f room (p : Int) (m : Int) S := by show prN f room (p : Int) (m : Int) (prP f room (p : Int) m (prA f room p)) = _; rw [hS2]
                                  rw [hPN] at hPk2 hS3
                                  exact ih61 (m + 1) _ _ _ _ _ _ _ H4 (by omega) (by omega) (by omega) hS3 hPk2 (hLy.up' (by omega) (by omega)) hO hNw hLn hOw hFu (Fr.trans hu6 (Fr.trans (hff.un (by omega)) (Fr.trans (hf2.un (by omega)) (Fr.trans (hf3.un (by omega)) (hf4.un (by omega))))))
                                · skip
                                  have hln2 : ¬ l = y0 := fun z => by rw [z] at c114; omega
                                  refine g_iinc (pc := 117) (pl := 4) (x := l) (lv' := [(4, _), (0, _), (1, _), (2, _), (3, _)]) X dX9_prints_117 rfl (by decide) rfl ?_
                                  refine g_goto (pc := 120) X 106 dX9_prints_120 (by decide) ?_
                                  refine G.pick [1, 2, 3, 4, 0] (lv' := [(0, _), (1, _), (2, _), (3, _), (4, _)]) rfl ?_
                                  exact ih106 (l + 1) (by omega) (by omega)
                            refine G.pick [1, 2, 3, 4, 0] (lv' := [(0, _), (1, _), (2, _), (3, _), (4, _)]) rfl ?_
                            exact hL106 _ o9 (Nat.lt_succ_self _) (by omega)
                    refine G.pick [1, 2, 3, 0] (lv' := [(0, _), (1, _), (2, _), (3, _)]) rfl ?_
                    exact hL61 _ 0 _ S L1 W1 fi1 la1 pc1 Hx (Nat.lt_succ_self _) rfl (by omega) hS0 hPk hLy hO hNw hLn hOw hFu hu5
              refine G.pick [1, 2, 0] (lv' := [(0, _), (1, _), (2, _)]) rfl ?_
              have ex : x = f 1 := by omega
              rw [ex] at hz2
              exact hL49 _ 0 _ (fun _ => 0, fun _ => -6, fun _ => -6) L1 W fi la pc Hx (Nat.lt_succ_self _) rfl (by omega) rfl (PrOk.start f) ⟨fun i i0 i1 => hz2 i i0 i1, fun i i0 i1 z => absurd (hz2 i i0 i1) z⟩ hO hNw hLn hOw hFu hu4
            · skip
              refine g_aload_n (pc := 33) (pl := 0) X dX9_prints_33 rfl ?_
              refine g_getf (pc := 34) X zF_X9_prints_29 hO rfl dX9_prints_34 ?_
              refine g_iload_n (pc := 37) (pl := 2) X dX9_prints_37 rfl ?_
              refine g_bipush (pc := 38) X dX9_prints_38 (by decide +kernel) ?_
              refine g_iastore (pc := 40) X hLn (by omega) (by omega) (by omega) (by omega) dX9_prints_40 (fun H1 hLnn hf1 => ?_)
              replace hO := hO.fr hf1 (by omega)
              replace hNw := hNw.fr hf1 (by omega)
              replace hOw := hOw.fr hf1 (by omega)
              replace hFu := hFu.fr hf1 (by omega)
              replace hLn := hLnn
              clear hLnn
              refine g_iinc (pc := 41) (pl := 2) (x := x) (lv' := [(2, _), (0, _), (1, _)]) X dX9_prints_41 rfl (by decide) rfl ?_
              refine g_goto (pc := 44) X 23 dX9_prints_44 (by decide) ?_
              refine G.pick [1, 2, 0] (lv' := [(0, _), (1, _), (2, _)]) rfl ?_
              exact ih23 (x + 1) _ H1 (by omega) (by omega) (fun i i0 i1 => by by_cases c : i = x; (exact if_pos c); (exact (if_neg c).trans (hz2 i i0 (by omega)))) hO hNw hLn hOw hFu (Fr.trans hu4 (hf1.un (by omega)))
        refine G.pick [1, 2, 0] (lv' := [(0, _), (1, _), (2, _)]) rfl ?_
        have hFu2 := Ia.congr (f' := fun _ => 0) hFu (fun i i0 i1 => hz i i0 (by omega))
        exact hL23 _ 0 L Hx (Nat.lt_succ_self _) (by omega) (fun i i0 i1 => by omega) hO hNw hLn hOw hFu2 hu3
      · skip
        refine g_aload_n (pc := 8) (pl := 0) X dX9_prints_8 rfl ?_
        refine g_getf (pc := 9) X zF_X9_prints_35 hO rfl dX9_prints_9 ?_
        refine g_iload_n (pc := 12) (pl := 2) X dX9_prints_12 rfl ?_
        refine g_iconst (pc := 13) X dX9_prints_13 ?_
        refine g_iastore (pc := 14) X hFu (by omega) (by omega) (by omega) (by omega) dX9_prints_14 (fun H1 hFun hf1 => ?_)
        replace hO := hO.fr hf1 (by omega)
        replace hNw := hNw.fr hf1 (by omega)
        replace hLn := hLn.fr hf1 (by omega)
        replace hOw := hOw.fr hf1 (by omega)
        replace hFu := hFun
        clear hFun
        refine g_iinc (pc := 15) (pl := 2) (x := x) (lv' := [(2, _), (0, _), (1, _)]) X dX9_prints_15 rfl (by decide) rfl ?_
        refine g_goto (pc := 18) X 2 dX9_prints_18 (by decide) ?_
        refine G.pick [1, 2, 0] (lv' := [(0, _), (1, _), (2, _)]) rfl ?_
        exact ih2 (x + 1) _ H1 (by omega) (by omega) (fun i i0 i1 => by by_cases c : i = x; (exact if_pos c); (exact (if_neg c).trans (hz i i0 (by omega)))) hO hNw hLn hOw hFu (Fr.trans hu3 (hf1.un (by omega)))
  refine G.pick [1, 2, 0] (lv' := [(0, _), (1, _), (2, _)]) rfl ?_
  exact hL2 _ 0 Q H (Nat.lt_succ_self _) (by omega) (fun i i0 i1 => by omega) hO hNw hLn hOw hFu (Fr.refl _ _)

abbrev rm_X9_printed : Room := { frames := 3, cells := 0, slots := 0, locals := 70 }
theorem cs_X9_printed_140 : zCV RX9 wsX9_printed 140 9 yX9_isNote wsX9_isNote cX9_isNote 2 (some .boolean) rm_X9_printed rm_X9_isNote 1 := ⟨_, _, gX9_printed_X9_isNote, rfl, ⟨by decide +kernel, by decide +kernel, by decide +kernel⟩, ⟨Nat.le_of_ble_eq_true rfl, Nat.le_of_ble_eq_true rfl⟩, rfl, rfl⟩
theorem cs_X9_printed_41 : zCJ RX9 wsX9_printed 41 yX9_in wsX9_in cX9_in 3 (some .boolean) rm_X9_printed rm_X9_in 3 := ⟨_, gX9_printed_X9_in, rfl, ⟨by decide +kernel, by decide +kernel, by decide +kernel⟩, ⟨Nat.le_of_ble_eq_true rfl, Nat.le_of_ble_eq_true rfl⟩⟩
theorem zF_X9_printed_7 : zF RX9 wsX9_printed 9 0 7 := ⟨RX9, TX9, 17, rfl, by decide +kernel, by decide, by decide +kernel⟩
theorem cs_X9_printed_180 : zCV RX9 wsX9_printed 180 9 yX9_prints wsX9_prints cX9_prints 5 none rm_X9_printed rm_X9_prints 1 := ⟨_, _, gX9_printed_X9_prints, rfl, ⟨by decide +kernel, by decide +kernel, by decide +kernel⟩, ⟨Nat.le_of_ble_eq_true rfl, Nat.le_of_ble_eq_true rfl⟩, rfl, rfl⟩
theorem zF_X9_printed_29 : zF RX9 wsX9_printed 9 13 29 := ⟨RX9, TX9, 17, rfl, by decide +kernel, by decide, by decide +kernel⟩
theorem zF_X9_printed_32 : zF RX9 wsX9_printed 9 14 32 := ⟨RX9, TX9, 17, rfl, by decide +kernel, by decide, by decide +kernel⟩
set_option maxRecDepth 100000 in
theorem c_X9_printed (l : Launch) (D : zD) (base : Nat) (y : Nat) (kp pd at' od fi la pc : Int) (f : Int → Int) (L W Q : Int → Int) (n e : Int) (hq : base ≤ y) (hI : PInv f) (hn : rg n) (he : rg e) : Ct l yX9_printed wsX9_printed rm_X9_printed D base [.ref y, .int (J n), .int (J e)] (fun H => MoO D y kp pd at' od fi la pc H ∧ NwAt D y f H ∧ Ia D (y + 7) 16 L H ∧ Ia D (y + 8) 16 W H ∧ Ia D (y + 9) 80 Q H) (PI (fun H v H1 => piR f n e = v ∧ (MoE D y kp pd H1 ∧ NwAt D y f H1 ∧ (∃ L2 : Int → Int, Ia D (y + 7) 16 L2 H1) ∧ (∃ W2 : Int → Int, Ia D (y + 8) 16 W2 H1) ∧ (∃ Q2 : Int → Int, Ia D (y + 9) 80 Q2 H1)) ∧ Fr (Un y (y + 1) (y + 7) (y + 10)) 0 H H1)) := by
  refine Ct.of (own := RX9) (cc := cX9_printed) (maxL := 3) (by decide +kernel) rfl (Nat.le_of_ble_eq_true rfl) rfl ?_
  intro K H X R hH hnm hP
  show G K 0 0 H 0 [(0, .ref y), (1, .int (J n)), (2, .int (J e))] []
  obtain ⟨hO, hNw, hLn, hOw, hFu⟩ := hP
  have hnum := hI.nums
  refine g_aload_n (pc := 0) (pl := 0) X dX9_printed_0 rfl ?_
  refine g_iload_n (pc := 1) (pl := 1) X dX9_printed_1 rfl ?_
  refine gVi (pc := 2) (n2 := 0) (k2 := 0) X cs_X9_printed_140 (c_X9_isNote (zl K) D base y kp pd at' od fi la pc f n hq hI (by omega)) rfl hO (by omega) ⟨hO, hNw⟩ rfl ⟨Nat.le_of_ble_eq_true rfl, Nat.le_of_ble_eq_true rfl⟩ dX9_printed_2 (Nat.le_of_ble_eq_true rfl) rfl rfl (fun v2 H1 hp2 hs2 => ?_)
  obtain ⟨rfl, rfl⟩ := hp2
  refine g_if_ne (pc := 5) X 10 dX9_printed_5 (by decide) (zbr _) (fun c5 => ?_) (fun c5 => ?_)
  · skip
    replace c5 := zb1 c5
    refine g_iload_n (pc := 10) (pl := 2) X dX9_printed_10 rfl ?_
    refine g_iconst (pc := 11) X dX9_printed_11 ?_
    refine g_iconst (pc := 12) X dX9_printed_12 ?_
    refine gJi (pc := 13) (n2 := 0) (k2 := 0) X cs_X9_printed_41 (c_X9_in (zl K) D base e 0 1 (by omega) (by omega) (by omega)) rfl (by have := hO.lt; omega) trivial rfl ⟨Nat.le_of_ble_eq_true rfl, Nat.le_of_ble_eq_true rfl⟩ dX9_printed_13 (Nat.le_of_ble_eq_true rfl) rfl rfl (fun v13 H1 hp13 hs13 => ?_)
    obtain ⟨rfl, rfl⟩ := hp13
    refine g_if_ne (pc := 16) X 22 dX9_printed_16 (by decide) (zbr _) (fun c16 => ?_) (fun c16 => ?_)
    · skip
      replace c16 := zb1 c16
      refine g_aload_n (pc := 22) (pl := 0) X dX9_printed_22 rfl ?_
      refine g_aload_n (pc := 23) (pl := 0) X dX9_printed_23 rfl ?_
      refine g_getf (pc := 24) X zF_X9_printed_7 hO rfl dX9_printed_24 ?_
      refine g_iconst (pc := 27) X dX9_printed_27 ?_
      refine g_iaload (pc := 28) X hNw (by omega) (by omega) (by omega) dX9_printed_28 ?_
      refine gVv (pc := 29) (n2 := 0) (k2 := 0) X cs_X9_printed_180 (c_X9_prints (zl K) D base y kp pd at' od fi la pc f L W Q (f 4) hq hI (by omega)) rfl hO (by omega) ⟨hO, hNw, hLn, hOw, hFu⟩ rfl ⟨Nat.le_of_ble_eq_true rfl, Nat.le_of_ble_eq_true rfl⟩ dX9_printed_29 (Nat.le_of_ble_eq_true rfl) rfl rfl (fun H1 hp29 hs29 => ?_)
      obtain ⟨⟨t1, t2, t3, t4, t5, hOn⟩, hNwn, ⟨L2, W2, hLy, hLn2, hOw2⟩, ⟨Q2, hFu2⟩, hup⟩ := hp29
      clear hO hNw hLn hOw hFu
      have hO := hOn
      have hNw := hNwn
      have hLn := hLn2
      have hOw := hOw2
      have hFu := hFu2
      clear hOn hNwn hLn2 hOw2 hFu2
      have hPk := prA_ok hI (room := f 4) (by omega) (f 0).toNat (by omega)
      obtain ⟨hbL, hbW, hbLW⟩ := hLy.bds hPk
      have hl1 := hLy.1 n (by omega) (by omega)
      have hl2 := hLy.2 n (by omega) (by omega)
      have hl3 := hbL n (by omega) (by omega)
      have hl4 := hPk.2.2.2.2 n
      have ePi : piR f n e = if e = 0 then (prA f (f 4) (f 0).toNat).2.1 n else (prA f (f 4) (f 0).toNat).2.2 n := (if_neg (fun z => z c5)).trans (if_neg (by omega))
      refine g_aload_n (pc := 32) (pl := 0) X dX9_printed_32 rfl ?_
      refine g_getf (pc := 33) X zF_X9_printed_29 hO rfl dX9_printed_33 ?_
      refine g_iload_n (pc := 36) (pl := 1) X dX9_printed_36 rfl ?_
      refine g_iaload (pc := 37) X hLn (by omega) (by omega) (by omega) dX9_printed_37 ?_
      refine g_bipush (pc := 38) X dX9_printed_38 (by decide +kernel) ?_
      refine g_icmp_eq (pc := 40) X 47 dX9_printed_40 (by decide) (by omega) (by omega) (fun c40 => ?_) (fun c40 => ?_)
      · skip
        refine g_aload_n (pc := 47) (pl := 0) X dX9_printed_47 rfl ?_
        refine g_getf (pc := 48) X zF_X9_printed_29 hO rfl dX9_printed_48 ?_
        refine g_iload_n (pc := 51) (pl := 1) X dX9_printed_51 rfl ?_
        refine g_iaload (pc := 52) X hLn (by omega) (by omega) (by omega) dX9_printed_52 ?_
        refine g_goto (pc := 53) X 69 dX9_printed_53 (by decide) ?_
        refine g_iret (pc := 69) X R hH dX9_printed_69 ?_
        have ev : piR f n e = L2 n := by
          rw [ePi]
          by_cases z : e = 0
          · rw [if_pos z]; exact hl1.symm
          · rw [if_neg z]; first | (exfalso; omega) | (rw [hl4 (by omega)]; omega)
        exact ⟨ev, ⟨⟨_, _, _, _, _, hO⟩, hNw, ⟨_, hLn⟩, ⟨_, hOw⟩, ⟨_, hFu⟩⟩, hup⟩
      · skip
        refine g_iload_n (pc := 43) (pl := 2) X dX9_printed_43 rfl ?_
        refine g_if_ne (pc := 44) X 56 dX9_printed_44 (by decide) (by omega) (fun c44 => ?_) (fun c44 => ?_)
        · skip
          refine g_aload_n (pc := 56) (pl := 0) X dX9_printed_56 rfl ?_
          refine g_getf (pc := 57) X zF_X9_printed_29 hO rfl dX9_printed_57 ?_
          refine g_iload_n (pc := 60) (pl := 1) X dX9_printed_60 rfl ?_
          refine g_iaload (pc := 61) X hLn (by omega) (by omega) (by omega) dX9_printed_61 ?_
          refine g_aload_n (pc := 62) (pl := 0) X dX9_printed_62 rfl ?_
          refine g_getf (pc := 63) X zF_X9_printed_32 hO rfl dX9_printed_63 ?_
          refine g_iload_n (pc := 66) (pl := 1) X dX9_printed_66 rfl ?_
          refine g_iaload (pc := 67) X hOw (by omega) (by omega) (by omega) dX9_printed_67 ?_
          refine g_isub (pc := 68) X dX9_printed_68 ?_
          refine g_iret (pc := 69) X R hH dX9_printed_69 ?_
          have ev : piR f n e = L2 n - W2 n := by rw [ePi, if_neg (by omega)]; exact (hl2 (by omega)).1
          exact ⟨ev, ⟨⟨_, _, _, _, _, hO⟩, hNw, ⟨_, hLn⟩, ⟨_, hOw⟩, ⟨_, hFu⟩⟩, hup⟩
        · skip
          refine g_aload_n (pc := 47) (pl := 0) X dX9_printed_47 rfl ?_
          refine g_getf (pc := 48) X zF_X9_printed_29 hO rfl dX9_printed_48 ?_
          refine g_iload_n (pc := 51) (pl := 1) X dX9_printed_51 rfl ?_
          refine g_iaload (pc := 52) X hLn (by omega) (by omega) (by omega) dX9_printed_52 ?_
          refine g_goto (pc := 53) X 69 dX9_printed_53 (by decide) ?_
          refine g_iret (pc := 69) X R hH dX9_printed_69 ?_
          have ev : piR f n e = L2 n := by
            rw [ePi]
            by_cases z : e = 0
            · rw [if_pos z]; exact hl1.symm
            · rw [if_neg z]; first | (exfalso; omega) | (rw [hl4 (by omega)]; omega)
          exact ⟨ev, ⟨⟨_, _, _, _, _, hO⟩, hNw, ⟨_, hLn⟩, ⟨_, hOw⟩, ⟨_, hFu⟩⟩, hup⟩
    · skip
      replace c16 := zb0 c16
      refine g_bipush (pc := 19) X dX9_printed_19 (by decide +kernel) ?_
      refine g_iret (pc := 21) X R hH dX9_printed_21 ?_
      exact ⟨(if_neg (fun z => z c5)).trans (if_pos (by omega)), ⟨⟨_, _, _, _, _, hO⟩, hNw, ⟨_, hLn⟩, ⟨_, hOw⟩, ⟨_, hFu⟩⟩, (Fr.refl _ _)⟩
  · skip
    replace c5 := zb0 c5
    refine g_iconst (pc := 8) X dX9_printed_8 ?_
    refine g_iret (pc := 9) X R hH dX9_printed_9 ?_
    exact ⟨if_pos c5, ⟨⟨_, _, _, _, _, hO⟩, hNw, ⟨_, hLn⟩, ⟨_, hOw⟩, ⟨_, hFu⟩⟩, (Fr.refl _ _)⟩

abbrev rm_X9_count : Room := { frames := 4, cells := 0, slots := 0, locals := 88 }
theorem cs_X9_count_41 : zCJ RX9 wsX9_count 41 yX9_in wsX9_in cX9_in 3 (some .boolean) rm_X9_count rm_X9_in 3 := ⟨_, gX9_count_X9_in, rfl, ⟨by decide +kernel, by decide +kernel, by decide +kernel⟩, ⟨Nat.le_of_ble_eq_true rfl, Nat.le_of_ble_eq_true rfl⟩⟩
theorem zF_X9_count_7 : zF RX9 wsX9_count 9 0 7 := ⟨RX9, TX9, 17, rfl, by decide +kernel, by decide, by decide +kernel⟩
theorem cs_X9_count_180 : zCV RX9 wsX9_count 180 9 yX9_prints wsX9_prints cX9_prints 5 none rm_X9_count rm_X9_prints 1 := ⟨_, _, gX9_count_X9_prints, rfl, ⟨by decide +kernel, by decide +kernel, by decide +kernel⟩, ⟨Nat.le_of_ble_eq_true rfl, Nat.le_of_ble_eq_true rfl⟩, rfl, rfl⟩
theorem cs_X9_count_192 : zCV RX9 wsX9_count 192 9 yX9_leaders wsX9_leaders cX9_leaders 6 (some .int) rm_X9_count rm_X9_leaders 1 := ⟨_, _, gX9_count_X9_leaders, rfl, ⟨by decide +kernel, by decide +kernel, by decide +kernel⟩, ⟨Nat.le_of_ble_eq_true rfl, Nat.le_of_ble_eq_true rfl⟩, rfl, rfl⟩
theorem cs_X9_count_189 : zCV RX9 wsX9_count 189 9 yX9_lastLine wsX9_lastLine cX9_lastLine 3 (some .int) rm_X9_count rm_X9_lastLine 0 := ⟨_, _, gX9_count_X9_lastLine, rfl, ⟨by decide +kernel, by decide +kernel, by decide +kernel⟩, ⟨Nat.le_of_ble_eq_true rfl, Nat.le_of_ble_eq_true rfl⟩, rfl, rfl⟩
theorem cs_X9_count_125 : zCV RX9 wsX9_count 125 9 yX9_torn wsX9_torn cX9_torn 3 (some .int) rm_X9_count rm_X9_torn 0 := ⟨_, _, gX9_count_X9_torn, rfl, ⟨by decide +kernel, by decide +kernel, by decide +kernel⟩, ⟨Nat.le_of_ble_eq_true rfl, Nat.le_of_ble_eq_true rfl⟩, rfl, rfl⟩
theorem zF_X9_count_49 : zF RX9 wsX9_count 9 2 49 := ⟨RX9, TX9, 17, rfl, by decide +kernel, by decide, by decide +kernel⟩
theorem zF_X9_count_186 : zF RX9 wsX9_count 9 6 186 := ⟨RX9, TX9, 17, rfl, by decide +kernel, by decide, by decide +kernel⟩
theorem cs_X9_count_183 : zCV RX9 wsX9_count 183 9 yX9_replyCount wsX9_replyCount cX9_replyCount 3 (some .int) rm_X9_count rm_X9_replyCount 0 := ⟨_, _, gX9_count_X9_replyCount, rfl, ⟨by decide +kernel, by decide +kernel, by decide +kernel⟩, ⟨Nat.le_of_ble_eq_true rfl, Nat.le_of_ble_eq_true rfl⟩, rfl, rfl⟩
theorem cs_X9_count_104 : zCV RX9 wsX9_count 104 9 yX9_orphans wsX9_orphans cX9_orphans 3 (some .int) rm_X9_count rm_X9_orphans 0 := ⟨_, _, gX9_count_X9_orphans, rfl, ⟨by decide +kernel, by decide +kernel, by decide +kernel⟩, ⟨Nat.le_of_ble_eq_true rfl, Nat.le_of_ble_eq_true rfl⟩, rfl, rfl⟩
set_option maxRecDepth 100000 in
theorem c_X9_count (l : Launch) (D : zD) (base : Nat) (y : Nat) (kp pd at' od fi la pc : Int) (f : Int → Int) (L W Q : Int → Int) (e : Int) (hq : base ≤ y) (hI : PInv f) (he : rg e) : Ct l yX9_count wsX9_count rm_X9_count D base [.ref y, .int (J e)] (fun H => MoO D y kp pd at' od fi la pc H ∧ NwAt D y f H ∧ Ia D (y + 7) 16 L H ∧ Ia D (y + 8) 16 W H ∧ Ia D (y + 9) 80 Q H) (PI (fun H v H1 => ctR f pd kp e = v ∧ (MoE D y kp pd H1 ∧ NwAt D y f H1 ∧ (∃ L2 : Int → Int, Ia D (y + 7) 16 L2 H1) ∧ (∃ W2 : Int → Int, Ia D (y + 8) 16 W2 H1) ∧ (∃ Q2 : Int → Int, Ia D (y + 9) 80 Q2 H1)) ∧ Fr (Un y (y + 1) (y + 7) (y + 10)) 0 H H1)) := by
  refine Ct.of (own := RX9) (cc := cX9_count) (maxL := 2) (by decide +kernel) rfl (Nat.le_of_ble_eq_true rfl) rfl ?_
  intro K H X R hH hnm hP
  show G K 0 0 H 0 [(0, .ref y), (1, .int (J e))] []
  obtain ⟨hO, hNw, hLn, hOw, hFu⟩ := hP
  have hnum := hI.nums
  refine g_iload_n (pc := 0) (pl := 1) X dX9_count_0 rfl ?_
  refine g_iconst (pc := 1) X dX9_count_1 ?_
  refine g_bipush (pc := 2) X dX9_count_2 (by decide +kernel) ?_
  refine gJi (pc := 4) (n2 := 0) (k2 := 0) X cs_X9_count_41 (c_X9_in (zl K) D base e 0 12 (by omega) (by omega) (by omega)) rfl (by have := hO.lt; omega) trivial rfl ⟨Nat.le_of_ble_eq_true rfl, Nat.le_of_ble_eq_true rfl⟩ dX9_count_4 (Nat.le_of_ble_eq_true rfl) rfl rfl (fun v4 H1 hp4 hs4 => ?_)
  obtain ⟨rfl, rfl⟩ := hp4
  refine g_if_ne (pc := 7) X 13 dX9_count_7 (by decide) (zbr _) (fun c7 => ?_) (fun c7 => ?_)
  · skip
    replace c7 := zb1 c7
    refine g_iload_n (pc := 13) (pl := 1) X dX9_count_13 rfl ?_
    refine g_iconst (pc := 14) X dX9_count_14 ?_
    refine g_icmp_ge (pc := 15) X 49 dX9_count_15 (by decide) (by omega) (by omega) (fun c15 => ?_) (fun c15 => ?_)
    · skip
      refine g_iload_n (pc := 49) (pl := 1) X dX9_count_49 rfl ?_
      refine g_bipush (pc := 50) X dX9_count_50 (by decide +kernel) ?_
      refine g_icmp_le (pc := 52) X 93 dX9_count_52 (by decide) (by omega) (by omega) (fun c52 => ?_) (fun c52 => ?_)
      · skip
        refine g_aload_n (pc := 93) (pl := 0) X dX9_count_93 rfl ?_
        refine g_aload_n (pc := 94) (pl := 0) X dX9_count_94 rfl ?_
        refine g_getf (pc := 95) X zF_X9_count_7 hO rfl dX9_count_95 ?_
        refine g_iconst (pc := 98) X dX9_count_98 ?_
        refine g_iaload (pc := 99) X hNw (by omega) (by omega) (by omega) dX9_count_99 ?_
        refine gVv (pc := 100) (n2 := 0) (k2 := 0) X cs_X9_count_180 (c_X9_prints (zl K) D base y kp pd at' od fi la pc f L W Q (f 4) hq hI (by omega)) rfl hO (by omega) ⟨hO, hNw, hLn, hOw, hFu⟩ rfl ⟨Nat.le_of_ble_eq_true rfl, Nat.le_of_ble_eq_true rfl⟩ dX9_count_100 (Nat.le_of_ble_eq_true rfl) rfl rfl (fun H1 hp100 hs100 => ?_)
        obtain ⟨⟨t1, t2, t3, t4, t5, hOn⟩, hNwn, ⟨L2, W2, hLy, hLn2, hOw2⟩, ⟨Q2, hFu2⟩, hup⟩ := hp100
        clear hO hNw hLn hOw hFu
        have hO := hOn
        have hNw := hNwn
        have hLn := hLn2
        have hOw := hOw2
        have hFu := hFu2
        clear hOn hNwn hLn2 hOw2 hFu2
        have hPk := prA_ok hI (room := f 4) (by omega) (f 0).toNat (by omega)
        obtain ⟨hbL, hbW, hbLW⟩ := hLy.bds hPk
        refine g_iload_n (pc := 103) (pl := 1) X dX9_count_103 rfl ?_
        refine g_iconst (pc := 104) X dX9_count_104 ?_
        refine g_icmp_ne (pc := 105) X 115 dX9_count_105 (by decide) (by omega) (by omega) (fun c105 => ?_) (fun c105 => ?_)
        · skip
          refine g_iload_n (pc := 115) (pl := 1) X dX9_count_115 rfl ?_
          refine g_iconst (pc := 116) X dX9_count_116 ?_
          refine g_icmp_ne (pc := 117) X 145 dX9_count_117 (by decide) (by omega) (by omega) (fun c117 => ?_) (fun c117 => ?_)
          · skip
            refine g_iload_n (pc := 145) (pl := 1) X dX9_count_145 rfl ?_
            refine g_bipush (pc := 146) X dX9_count_146 (by decide +kernel) ?_
            refine g_icmp_ne (pc := 148) X 158 dX9_count_148 (by decide) (by omega) (by omega) (fun c148 => ?_) (fun c148 => ?_)
            · skip
              refine g_aload_n (pc := 158) (pl := 0) X dX9_count_158 rfl ?_
              refine g_iconst (pc := 159) X dX9_count_159 ?_
              refine gVi (pc := 160) (n2 := 0) (k2 := 0) X cs_X9_count_192 (c_X9_leaders (zl K) D base y kp pd t1 t2 t3 t4 t5 f L2 W2 1 hq hI hbL hbW hbLW (by omega)) rfl hO (by omega) ⟨hO, hNw, hLn, hOw⟩ rfl ⟨Nat.le_of_ble_eq_true rfl, Nat.le_of_ble_eq_true rfl⟩ dX9_count_160 (Nat.le_of_ble_eq_true rfl) rfl rfl (fun v160 H2 hp160 hs160 => ?_)
              obtain ⟨rfl, rfl⟩ := hp160
              rw [show (if (1 : Int) = 0 then mxE L2 (fun i => L2 i - W2 i) (f 1).toNat else sumI (ldr L2 (fun i => L2 i - W2 i)) (f 1).toNat) = sumI (ldr L2 (fun i => L2 i - W2 i)) (f 1).toNat from rfl]
              refine g_iret (pc := 163) X R hH dX9_count_163 ?_
              have em : sumI (ldr L2 (fun i => L2 i - W2 i)) (f 1).toNat = laR f (f 4) := sumI_congr _ hLy.ldr'
              rw [em]
              exact ⟨(if_neg (by omega)).trans ((if_neg (by omega)).trans ((if_neg (by omega)).trans ((if_neg (by omega)).trans ((if_neg (by omega)).trans ((if_neg (by omega)).trans ((if_neg (by omega)).trans (if_pos (by omega)))))))), ⟨⟨_, _, _, _, _, hO⟩, hNw, ⟨_, hLn⟩, ⟨_, hOw⟩, ⟨_, hFu⟩⟩, hup⟩
            · skip
              refine g_aload_n (pc := 151) (pl := 0) X dX9_count_151 rfl ?_
              refine gVi (pc := 152) (n2 := 0) (k2 := 0) X cs_X9_count_189 (c_X9_lastLine (zl K) D base y kp pd t1 t2 t3 t4 t5 f L2 W2 hq hI hbL hbW) rfl hO (by omega) ⟨hO, hNw, hLn, hOw⟩ rfl ⟨Nat.le_of_ble_eq_true rfl, Nat.le_of_ble_eq_true rfl⟩ dX9_count_152 (Nat.le_of_ble_eq_true rfl) rfl rfl (fun v152 H2 hp152 hs152 => ?_)
              obtain ⟨rfl, rfl⟩ := hp152
              refine g_goto (pc := 155) X 163 dX9_count_155 (by decide) ?_
              refine g_iret (pc := 163) X R hH dX9_count_163 ?_
              have em : mxL L2 (f 1).toNat = llR f (f 4) := mxL_congr _ (fun i i0 i1 => hLy.1 i i0 (by omega))
              rw [em]
              exact ⟨(if_neg (by omega)).trans ((if_neg (by omega)).trans ((if_neg (by omega)).trans ((if_neg (by omega)).trans ((if_neg (by omega)).trans ((if_neg (by omega)).trans (if_pos (by omega))))))), ⟨⟨_, _, _, _, _, hO⟩, hNw, ⟨_, hLn⟩, ⟨_, hOw⟩, ⟨_, hFu⟩⟩, hup⟩
          · skip
            refine g_aload_n (pc := 120) (pl := 0) X dX9_count_120 rfl ?_
            refine g_getf (pc := 121) X zF_X9_count_7 hO rfl dX9_count_121 ?_
            refine g_iconst (pc := 124) X dX9_count_124 ?_
            refine g_iaload (pc := 125) X hNw (by omega) (by omega) (by omega) dX9_count_125 ?_
            refine g_aload_n (pc := 126) (pl := 0) X dX9_count_126 rfl ?_
            refine g_getf (pc := 127) X zF_X9_count_7 hO rfl dX9_count_127 ?_
            refine g_iconst (pc := 130) X dX9_count_130 ?_
            refine g_iaload (pc := 131) X hNw (by omega) (by omega) (by omega) dX9_count_131 ?_
            refine g_iadd (pc := 132) X dX9_count_132 ?_
            refine g_iconst (pc := 133) X dX9_count_133 ?_
            refine g_isub (pc := 134) X dX9_count_134 ?_
            refine g_aload_n (pc := 135) (pl := 0) X dX9_count_135 rfl ?_
            refine g_getf (pc := 136) X zF_X9_count_7 hO rfl dX9_count_136 ?_
            refine g_iconst (pc := 139) X dX9_count_139 ?_
            refine g_iaload (pc := 140) X hNw (by omega) (by omega) (by omega) dX9_count_140 ?_
            refine g_idiv (pc := 141) (z := J (lns f)) X dX9_count_141 (fun z => by have q := (J_inj (a := f 3) (b := 0) (by omega) (by omega)).mp z; omega) ((J_div (by omega) (by omega)).trans (by rw [lns_eq hI])) ?_
            refine g_goto (pc := 142) X 163 dX9_count_142 (by decide) ?_
            refine g_iret (pc := 163) X R hH dX9_count_163 ?_
            exact ⟨(if_neg (by omega)).trans ((if_neg (by omega)).trans ((if_neg (by omega)).trans ((if_neg (by omega)).trans ((if_neg (by omega)).trans (if_pos (by omega)))))), ⟨⟨_, _, _, _, _, hO⟩, hNw, ⟨_, hLn⟩, ⟨_, hOw⟩, ⟨_, hFu⟩⟩, hup⟩
        · skip
          refine g_aload_n (pc := 108) (pl := 0) X dX9_count_108 rfl ?_
          refine gVi (pc := 109) (n2 := 0) (k2 := 0) X cs_X9_count_125 (c_X9_torn (zl K) D base y kp pd t1 t2 t3 t4 t5 f hq hI) rfl hO (by omega) ⟨hO, hNw⟩ rfl ⟨Nat.le_of_ble_eq_true rfl, Nat.le_of_ble_eq_true rfl⟩ dX9_count_109 (Nat.le_of_ble_eq_true rfl) rfl rfl (fun v109 H2 hp109 hs109 => ?_)
          obtain ⟨hv, hE, hNwn, hft⟩ := hp109
          subst hv
          replace hLn := hLn.fr hft (by omega)
          replace hOw := hOw.fr hft (by omega)
          replace hFu := hFu.fr hft (by omega)
          clear hO hNw
          have hNw := hNwn
          refine g_goto (pc := 112) X 163 dX9_count_112 (by decide) ?_
          refine g_iret (pc := 163) X R hH dX9_count_163 ?_
          obtain ⟨u1, u2, u3, u4, u5, hO⟩ := hE
          exact ⟨(if_neg (by omega)).trans ((if_neg (by omega)).trans ((if_neg (by omega)).trans ((if_neg (by omega)).trans (if_pos (by omega))))), ⟨⟨_, _, _, _, _, hO⟩, hNw, ⟨_, hLn⟩, ⟨_, hOw⟩, ⟨_, hFu⟩⟩, (Fr.trans hup (hft.un (by omega)))⟩
      · skip
        refine g_iload_n (pc := 55) (pl := 1) X dX9_count_55 rfl ?_
        refine g_bipush (pc := 56) X dX9_count_56 (by decide +kernel) ?_
        refine g_icmp_ge (pc := 58) X 75 dX9_count_58 (by decide) (by omega) (by omega) (fun c58 => ?_) (fun c58 => ?_)
        · skip
          refine g_iload_n (pc := 75) (pl := 1) X dX9_count_75 rfl ?_
          refine g_bipush (pc := 76) X dX9_count_76 (by decide +kernel) ?_
          refine g_icmp_ne (pc := 78) X 88 dX9_count_78 (by decide) (by omega) (by omega) (fun c78 => ?_) (fun c78 => ?_)
          · skip
            refine g_aload_n (pc := 88) (pl := 0) X dX9_count_88 rfl ?_
            refine g_getf (pc := 89) X zF_X9_count_49 hO rfl dX9_count_89 ?_
            refine g_iret (pc := 92) X R hH dX9_count_92 ?_
            exact ⟨(if_neg (by omega)).trans ((if_neg (by omega)).trans ((if_neg (by omega)).trans ((if_neg (by omega)).trans ((if_neg (by omega)).trans ((if_neg (by omega)).trans ((if_neg (by omega)).trans ((if_neg (by omega)).trans ((if_neg (by omega)).trans ((if_neg (by omega)).trans (if_pos (by omega))))))))))), ⟨⟨_, _, _, _, _, hO⟩, hNw, ⟨_, hLn⟩, ⟨_, hOw⟩, ⟨_, hFu⟩⟩, (Fr.refl _ _)⟩
          · skip
            refine g_aload_n (pc := 81) (pl := 0) X dX9_count_81 rfl ?_
            refine g_getf (pc := 82) X zF_X9_count_186 hO rfl dX9_count_82 ?_
            refine g_goto (pc := 85) X 92 dX9_count_85 (by decide) ?_
            refine g_iret (pc := 92) X R hH dX9_count_92 ?_
            exact ⟨(if_neg (by omega)).trans ((if_neg (by omega)).trans ((if_neg (by omega)).trans ((if_neg (by omega)).trans ((if_neg (by omega)).trans ((if_neg (by omega)).trans ((if_neg (by omega)).trans ((if_neg (by omega)).trans ((if_neg (by omega)).trans (if_pos (by omega)))))))))), ⟨⟨_, _, _, _, _, hO⟩, hNw, ⟨_, hLn⟩, ⟨_, hOw⟩, ⟨_, hFu⟩⟩, (Fr.refl _ _)⟩
        · skip
          refine g_aload_n (pc := 61) (pl := 0) X dX9_count_61 rfl ?_
          refine g_getf (pc := 62) X zF_X9_count_7 hO rfl dX9_count_62 ?_
          refine g_iconst (pc := 65) X dX9_count_65 ?_
          refine g_iload_n (pc := 66) (pl := 1) X dX9_count_66 rfl ?_
          refine g_iadd (pc := 67) X dX9_count_67 ?_
          refine g_bipush (pc := 68) X dX9_count_68 (by decide +kernel) ?_
          refine g_isub (pc := 70) X dX9_count_70 ?_
          refine g_iaload (pc := 71) X hNw (by omega) (by omega) (by omega) dX9_count_71 ?_
          refine g_goto (pc := 72) X 92 dX9_count_72 (by decide) ?_
          refine g_iret (pc := 92) X R hH dX9_count_92 ?_
          exact ⟨(if_neg (by omega)).trans ((if_neg (by omega)).trans ((if_neg (by omega)).trans ((if_neg (by omega)).trans ((if_neg (by omega)).trans ((if_neg (by omega)).trans ((if_neg (by omega)).trans ((if_neg (by omega)).trans ((if_pos (by omega)).trans (congrArg f (by omega)))))))))), ⟨⟨_, _, _, _, _, hO⟩, hNw, ⟨_, hLn⟩, ⟨_, hOw⟩, ⟨_, hFu⟩⟩, (Fr.refl _ _)⟩
    · skip
      refine g_iload_n (pc := 18) (pl := 1) X dX9_count_18 rfl ?_
      refine g_iconst (pc := 19) X dX9_count_19 ?_
      refine g_icmp_ge (pc := 20) X 32 dX9_count_20 (by decide) (by omega) (by omega) (fun c20 => ?_) (fun c20 => ?_)
      · skip
        refine g_iload_n (pc := 32) (pl := 1) X dX9_count_32 rfl ?_
        refine g_iconst (pc := 33) X dX9_count_33 ?_
        refine g_icmp_ne (pc := 34) X 44 dX9_count_34 (by decide) (by omega) (by omega) (fun c34 => ?_) (fun c34 => ?_)
        · skip
          refine g_aload_n (pc := 44) (pl := 0) X dX9_count_44 rfl ?_
          refine gVi (pc := 45) (n2 := 0) (k2 := 0) X cs_X9_count_183 (c_X9_replyCount (zl K) D base y kp pd at' od fi la pc f hq hI) rfl hO (by omega) ⟨hO, hNw⟩ rfl ⟨Nat.le_of_ble_eq_true rfl, Nat.le_of_ble_eq_true rfl⟩ dX9_count_45 (Nat.le_of_ble_eq_true rfl) rfl rfl (fun v45 H1 hp45 hs45 => ?_)
          obtain ⟨rfl, rfl⟩ := hp45
          refine g_iret (pc := 48) X R hH dX9_count_48 ?_
          exact ⟨(if_neg (by omega)).trans ((if_neg (by omega)).trans ((if_neg (by omega)).trans (if_pos (by omega)))), ⟨⟨_, _, _, _, _, hO⟩, hNw, ⟨_, hLn⟩, ⟨_, hOw⟩, ⟨_, hFu⟩⟩, (Fr.refl _ _)⟩
        · skip
          refine g_aload_n (pc := 37) (pl := 0) X dX9_count_37 rfl ?_
          refine gVi (pc := 38) (n2 := 0) (k2 := 0) X cs_X9_count_104 (c_X9_orphans (zl K) D base y kp pd at' od fi la pc f hq hI) rfl hO (by omega) ⟨hO, hNw⟩ rfl ⟨Nat.le_of_ble_eq_true rfl, Nat.le_of_ble_eq_true rfl⟩ dX9_count_38 (Nat.le_of_ble_eq_true rfl) rfl rfl (fun v38 H1 hp38 hs38 => ?_)
          obtain ⟨rfl, rfl⟩ := hp38
          refine g_goto (pc := 41) X 48 dX9_count_41 (by decide) ?_
          refine g_iret (pc := 48) X R hH dX9_count_48 ?_
          exact ⟨(if_neg (by omega)).trans ((if_neg (by omega)).trans (if_pos (by omega))), ⟨⟨_, _, _, _, _, hO⟩, hNw, ⟨_, hLn⟩, ⟨_, hOw⟩, ⟨_, hFu⟩⟩, (Fr.refl _ _)⟩
      · skip
        refine g_aload_n (pc := 23) (pl := 0) X dX9_count_23 rfl ?_
        refine g_getf (pc := 24) X zF_X9_count_7 hO rfl dX9_count_24 ?_
        refine g_iload_n (pc := 27) (pl := 1) X dX9_count_27 rfl ?_
        refine g_iaload (pc := 28) X hNw (by omega) (by omega) (by omega) dX9_count_28 ?_
        refine g_goto (pc := 29) X 48 dX9_count_29 (by decide) ?_
        refine g_iret (pc := 48) X R hH dX9_count_48 ?_
        have ev : ctR f pd kp e = f e := by
          rcases (show e = 0 ∨ e = 1 by omega) with z | z
          · rw [z]; rfl
          · rw [z]; rfl
        exact ⟨ev, ⟨⟨_, _, _, _, _, hO⟩, hNw, ⟨_, hLn⟩, ⟨_, hOw⟩, ⟨_, hFu⟩⟩, (Fr.refl _ _)⟩
  · skip
    replace c7 := zb0 c7
    refine g_bipush (pc := 10) X dX9_count_10 (by decide +kernel) ?_
    refine g_iret (pc := 12) X R hH dX9_count_12 ?_
    exact ⟨(if_neg (by omega)).trans ((if_neg (by omega)).trans ((if_neg (by omega)).trans ((if_neg (by omega)).trans ((if_neg (by omega)).trans ((if_neg (by omega)).trans ((if_neg (by omega)).trans ((if_neg (by omega)).trans ((if_neg (by omega)).trans ((if_neg (by omega)).trans (if_neg (by omega))))))))))), ⟨⟨_, _, _, _, _, hO⟩, hNw, ⟨_, hLn⟩, ⟨_, hOw⟩, ⟨_, hFu⟩⟩, (Fr.refl _ _)⟩

abbrev rm_X9_leastRoom : Room := { frames := 3, cells := 0, slots := 0, locals := 70 }
theorem cs_X9_leastRoom_41 : zCJ RX9 wsX9_leastRoom 41 yX9_in wsX9_in cX9_in 3 (some .boolean) rm_X9_leastRoom rm_X9_in 3 := ⟨_, gX9_leastRoom_X9_in, rfl, ⟨by decide +kernel, by decide +kernel, by decide +kernel⟩, ⟨Nat.le_of_ble_eq_true rfl, Nat.le_of_ble_eq_true rfl⟩⟩
theorem cs_X9_leastRoom_180 : zCV RX9 wsX9_leastRoom 180 9 yX9_prints wsX9_prints cX9_prints 5 none rm_X9_leastRoom rm_X9_prints 1 := ⟨_, _, gX9_leastRoom_X9_prints, rfl, ⟨by decide +kernel, by decide +kernel, by decide +kernel⟩, ⟨Nat.le_of_ble_eq_true rfl, Nat.le_of_ble_eq_true rfl⟩, rfl, rfl⟩
theorem cs_X9_leastRoom_192 : zCV RX9 wsX9_leastRoom 192 9 yX9_leaders wsX9_leaders cX9_leaders 6 (some .int) rm_X9_leastRoom rm_X9_leaders 1 := ⟨_, _, gX9_leastRoom_X9_leaders, rfl, ⟨by decide +kernel, by decide +kernel, by decide +kernel⟩, ⟨Nat.le_of_ble_eq_true rfl, Nat.le_of_ble_eq_true rfl⟩, rfl, rfl⟩
set_option maxRecDepth 100000 in
theorem c_X9_leastRoom (l : Launch) (D : zD) (base : Nat) (y : Nat) (kp pd at' od fi la pc : Int) (f : Int → Int) (L W Q : Int → Int) (e : Int) (hq : base ≤ y) (hI : PInv f) (he : rg e) : Ct l yX9_leastRoom wsX9_leastRoom rm_X9_leastRoom D base [.ref y, .int (J e)] (fun H => MoO D y kp pd at' od fi la pc H ∧ NwAt D y f H ∧ Ia D (y + 7) 16 L H ∧ Ia D (y + 8) 16 W H ∧ Ia D (y + 9) 80 Q H) (PI (fun H v H1 => lrR f e = v ∧ (MoE D y kp pd H1 ∧ NwAt D y f H1 ∧ (∃ L2 : Int → Int, Ia D (y + 7) 16 L2 H1) ∧ (∃ W2 : Int → Int, Ia D (y + 8) 16 W2 H1) ∧ (∃ Q2 : Int → Int, Ia D (y + 9) 80 Q2 H1)) ∧ Fr (Un y (y + 1) (y + 7) (y + 10)) 0 H H1)) := by
  refine Ct.of (own := RX9) (cc := cX9_leastRoom) (maxL := 3) (by decide +kernel) rfl (Nat.le_of_ble_eq_true rfl) rfl ?_
  intro K H X R hH hnm hP
  show G K 0 0 H 0 [(0, .ref y), (1, .int (J e))] []
  obtain ⟨hO, hNw, hLn, hOw, hFu⟩ := hP
  have hnum := hI.nums
  refine g_iload_n (pc := 0) (pl := 1) X dX9_leastRoom_0 rfl ?_
  refine g_iconst (pc := 1) X dX9_leastRoom_1 ?_
  refine g_bipush (pc := 2) X dX9_leastRoom_2 (by decide +kernel) ?_
  refine gJi (pc := 4) (n2 := 0) (k2 := 0) X cs_X9_leastRoom_41 (c_X9_in (zl K) D base e 0 60 (by omega) (by omega) (by omega)) rfl (by have := hO.lt; omega) trivial rfl ⟨Nat.le_of_ble_eq_true rfl, Nat.le_of_ble_eq_true rfl⟩ dX9_leastRoom_4 (Nat.le_of_ble_eq_true rfl) rfl rfl (fun v4 H1 hp4 hs4 => ?_)
  obtain ⟨rfl, rfl⟩ := hp4
  refine g_if_ne (pc := 7) X 13 dX9_leastRoom_7 (by decide) (zbr _) (fun c7 => ?_) (fun c7 => ?_)
  · skip
    replace c7 := zb1 c7
    refine g_iconst (pc := 13) X dX9_leastRoom_13 ?_
    refine g_istore_n (pc := 14) (lv' := [(2, _), (0, _), (1, _)]) X dX9_leastRoom_14 (by decide) rfl ?_
    have hL15 : ∀ (fu : Nat) (k : Nat) (ki a1 a2 a3 a4 a5 : Int) (L1 W1 Q1 : Int → Int) (Hx : Heap), 10 - k < fu → (ki = (k : Int) + 1) → (k ≤ 9) → (lrR f e = lrm f e (9 - k) ((k : Int) + 1)) → (MoO D y kp pd a1 a2 a3 a4 a5 Hx) → (NwAt D y f Hx) → (Ia D (y + 7) 16 L1 Hx) → (Ia D (y + 8) 16 W1 Hx) → (Ia D (y + 9) 80 Q1 Hx) → (Fr (Un y (y + 1) (y + 7) (y + 10)) 0 H Hx) → G K 0 0 Hx 15 [(0, .ref y), (1, .int (J e)), (2, .int (J ki))] [] := by
      intro fu
      induction fu with
      | zero => intro k ki a1 a2 a3 a4 a5 L1 W1 Q1 Hx hm; exact absurd hm (Nat.not_lt_zero _)
      | succ fu ih15 =>
        intro k ki a1 a2 a3 a4 a5 L1 W1 Q1 Hx hm he h1 hw hO hNw hLn hOw hFu hu3
        subst he
        refine g_iload_n (pc := 15) (pl := 2) X dX9_leastRoom_15 rfl ?_
        refine g_bipush (pc := 16) X dX9_leastRoom_16 (by decide +kernel) ?_
        refine g_icmp_gt (pc := 18) X 43 dX9_leastRoom_18 (by decide) (by omega) (by omega) (fun c18 => ?_) (fun c18 => ?_)
        · skip
          have e9 : lrm f e (9 - k) ((k : Int) + 1) = -6 := by rw [show 9 - k = 0 by omega]; rfl
          refine g_bipush (pc := 43) X dX9_leastRoom_43 (by decide +kernel) ?_
          refine g_iret (pc := 45) X R hH dX9_leastRoom_45 ?_
          exact ⟨hw.trans e9, ⟨⟨_, _, _, _, _, hO⟩, hNw, ⟨_, hLn⟩, ⟨_, hOw⟩, ⟨_, hFu⟩⟩, hu3⟩
        · skip
          have e9 : lrm f e (9 - (k + 1) + 1) ((k : Int) + 1) = if loR f ((k : Int) + 1) ≤ e then (k : Int) + 1 else lrm f e (9 - (k + 1)) ((k : Int) + 1 + 1) := rfl
          rw [show 9 - (k + 1) + 1 = 9 - k by omega] at e9
          refine g_aload_n (pc := 21) (pl := 0) X dX9_leastRoom_21 rfl ?_
          refine g_iload_n (pc := 22) (pl := 2) X dX9_leastRoom_22 rfl ?_
          refine gVv (pc := 23) (n2 := 0) (k2 := 0) X cs_X9_leastRoom_180 (c_X9_prints (zl K) D base y kp pd a1 a2 a3 a4 a5 f L1 W1 Q1 ((k : Int) + 1) hq hI (by omega)) rfl hO (by omega) ⟨hO, hNw, hLn, hOw, hFu⟩ rfl ⟨Nat.le_of_ble_eq_true rfl, Nat.le_of_ble_eq_true rfl⟩ dX9_leastRoom_23 (Nat.le_of_ble_eq_true rfl) rfl rfl (fun H1 hp23 hs23 => ?_)
          obtain ⟨⟨t1, t2, t3, t4, t5, hOn⟩, hNwn, ⟨L2, W2, hLy, hLn2, hOw2⟩, ⟨Q2, hFu2⟩, hup⟩ := hp23
          clear hO hNw hLn hOw hFu
          have hO := hOn
          have hNw := hNwn
          have hLn := hLn2
          have hOw := hOw2
          have hFu := hFu2
          clear hOn hNwn hLn2 hOw2 hFu2
          have hPk := prA_ok hI (room := (k : Int) + 1) (by omega) (f 0).toNat (by omega)
          obtain ⟨hbL, hbW, hbLW⟩ := hLy.bds hPk
          refine g_aload_n (pc := 26) (pl := 0) X dX9_leastRoom_26 rfl ?_
          refine g_iconst (pc := 27) X dX9_leastRoom_27 ?_
          refine gVi (pc := 28) (n2 := 0) (k2 := 0) X cs_X9_leastRoom_192 (c_X9_leaders (zl K) D base y kp pd t1 t2 t3 t4 t5 f L2 W2 0 hq hI hbL hbW hbLW (by omega)) rfl hO (by omega) ⟨hO, hNw, hLn, hOw⟩ rfl ⟨Nat.le_of_ble_eq_true rfl, Nat.le_of_ble_eq_true rfl⟩ dX9_leastRoom_28 (Nat.le_of_ble_eq_true rfl) rfl rfl (fun v28 H2 hp28 hs28 => ?_)
          obtain ⟨rfl, rfl⟩ := hp28
          rw [show (if (0 : Int) = 0 then mxE L2 (fun i => L2 i - W2 i) (f 1).toNat else sumI (ldr L2 (fun i => L2 i - W2 i)) (f 1).toNat) = loR f ((k : Int) + 1) from mxE_congr _ hLy.ldr']
          have hlo := loR_rg hI (room := (k : Int) + 1) (by omega)
          refine g_iload_n (pc := 31) (pl := 1) X dX9_leastRoom_31 rfl ?_
          refine g_icmp_gt (pc := 32) X 37 dX9_leastRoom_32 (by decide) (by omega) (by omega) (fun c32 => ?_) (fun c32 => ?_)
          · skip
            refine g_iinc (pc := 37) (pl := 2) (x := (k : Int) + 1) (lv' := [(2, _), (0, _), (1, _)]) X dX9_leastRoom_37 rfl (by decide) rfl ?_
            refine g_goto (pc := 40) X 15 dX9_leastRoom_40 (by decide) ?_
            refine G.pick [1, 2, 0] (lv' := [(0, _), (1, _), (2, _)]) rfl ?_
            exact ih15 (k + 1) _ _ _ _ _ _ _ _ _ H1 (by omega) (by omega) (by omega) (hw.trans (e9.trans (if_neg (by omega)))) hO hNw hLn hOw hFu (Fr.trans hu3 hup)
          · skip
            refine g_iload_n (pc := 35) (pl := 2) X dX9_leastRoom_35 rfl ?_
            refine g_iret (pc := 36) X R hH dX9_leastRoom_36 ?_
            exact ⟨hw.trans (e9.trans (if_pos (by omega))), ⟨⟨_, _, _, _, _, hO⟩, hNw, ⟨_, hLn⟩, ⟨_, hOw⟩, ⟨_, hFu⟩⟩, (Fr.trans hu3 hup)⟩
    refine G.pick [1, 2, 0] (lv' := [(0, _), (1, _), (2, _)]) rfl ?_
    exact hL15 _ 0 _ at' od fi la pc L W Q H (Nat.lt_succ_self _) rfl (by omega) (if_neg (by omega)) hO hNw hLn hOw hFu (Fr.refl _ _)
  · skip
    replace c7 := zb0 c7
    refine g_bipush (pc := 10) X dX9_leastRoom_10 (by decide +kernel) ?_
    refine g_iret (pc := 12) X R hH dX9_leastRoom_12 ?_
    exact ⟨if_pos (by omega), ⟨⟨_, _, _, _, _, hO⟩, hNw, ⟨_, hLn⟩, ⟨_, hOw⟩, ⟨_, hFu⟩⟩, (Fr.refl _ _)⟩

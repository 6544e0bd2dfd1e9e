/-- note n goes: the rows behind it move up, replies behind it are told of a lower number, its letters are no one's -/
def shX (f : Int → Int) (n x : Int) : Int → Int := fun j => if j = 1 then f 1 - 1 else if 125 + 80 * n ≤ j ∧ j < x then f (j + 80) else f j
def adX (F : Int → Int) (n k : Int) : Int → Int := fun j => if 125 ≤ j ∧ j < 125 + 80 * k ∧ (j - 125) % 80 = 0 ∧ n < F j then F j - 1 else F j
def odX (G : Int → Int) (n p : Int) : Int → Int := fun j => if 65 ≤ j ∧ j < 65 + p then dropB (G j) n else G j
def ngX (f : Int → Int) (n : Int) : Int → Int := odX (adX (shX f n (125 + 80 * (f 1 - 1))) n (f 1 - 1)) n (f 0)
theorem shX_0 {f : Int → Int} {n : Int} (j : Int) : up f 1 (f 1 - 1) j = shX f n (125 + 80 * n) j := by
  unfold up shX
  by_cases c : j = 1
  · rw [if_pos c, if_pos c]
  · rw [if_neg c, if_neg c, if_neg (show ¬ (125 + 80 * n ≤ j ∧ j < 125 + 80 * n) by omega)]
theorem shX_step {f : Int → Int} {n x : Int} (hn : 0 ≤ n) (h : 125 + 80 * n ≤ x) (j : Int) : up (shX f n x) x (shX f n x (x + 80)) j = shX f n (x + 1) j := by
  have e : shX f n x (x + 80) = f (x + 80) := (if_neg (by omega)).trans (if_neg (by omega))
  rw [e]
  by_cases c : j = x
  · rw [c]
    exact (if_pos rfl).trans ((if_neg (by omega)).trans (if_pos (by omega))).symm
  · refine (if_neg c).trans ?_
    unfold shX
    by_cases c1 : j = 1
    · rw [if_pos c1, if_pos c1]
    · rw [if_neg c1, if_neg c1]
      by_cases c2 : 125 + 80 * n ≤ j ∧ j < x
      · rw [if_pos c2, if_pos (show 125 + 80 * n ≤ j ∧ j < x + 1 by omega)]
      · rw [if_neg c2, if_neg (show ¬ (125 + 80 * n ≤ j ∧ j < x + 1) by omega)]
theorem adX_0 {F : Int → Int} {n : Int} (j : Int) : F j = adX F n 0 j := (if_neg (by omega)).symm
theorem adX_step {F : Int → Int} {n r w : Int} (hr : 0 ≤ r) (hw : w = if n < F (125 + 80 * r) then F (125 + 80 * r) - 1 else F (125 + 80 * r)) (j : Int) : up (adX F n r) (125 + 80 * r) w j = adX F n (r + 1) j := by
  by_cases c : j = 125 + 80 * r
  · rw [c]
    refine (if_pos rfl).trans (hw.trans ?_)
    unfold adX
    by_cases c2 : n < F (125 + 80 * r)
    · rw [if_pos c2, if_pos (by refine ⟨by omega, by omega, by omega, c2⟩)]
    · rw [if_neg c2, if_neg (fun z => c2 z.2.2.2)]
  · refine (if_neg c).trans ?_
    unfold adX
    by_cases c2 : 125 ≤ j ∧ j < 125 + 80 * r ∧ (j - 125) % 80 = 0 ∧ n < F j
    · rw [if_pos c2, if_pos (by refine ⟨c2.1, by omega, c2.2.2.1, c2.2.2.2⟩)]
    · rw [if_neg c2, if_neg (fun z => c2 ⟨z.1, by have := z.2.1; have := z.2.2.1; omega, z.2.2.1, z.2.2.2⟩)]
theorem odX_0 {G : Int → Int} {n : Int} (j : Int) : G j = odX G n 0 j := (if_neg (by omega)).symm
theorem odX_step {G : Int → Int} {n p w : Int} (hp : 0 ≤ p) (hw : w = dropB (G (65 + p)) n) (j : Int) : up (odX G n p) (65 + p) w j = odX G n (p + 1) j := by
  by_cases c : j = 65 + p
  · rw [c]
    exact (if_pos rfl).trans (hw.trans (if_pos (by omega)).symm)
  · refine (if_neg c).trans ?_
    unfold odX
    by_cases c2 : 65 ≤ j ∧ j < 65 + p
    · rw [if_pos c2, if_pos (show 65 ≤ j ∧ j < 65 + (p + 1) by omega)]
    · rw [if_neg c2, if_neg (show ¬ (65 ≤ j ∧ j < 65 + (p + 1)) by omega)]
theorem ng_row {f : Int → Int} {n : Int} (hI : PInv f) (hn : 0 ≤ n ∧ n < f 1) {r c : Int} (hr : 0 ≤ r ∧ r < f 1 - 1) (h0 : 125 + 80 * r ≤ c) (h1 : c < 205 + 80 * r) : ngX f n c = rmG f n c := by
  have hnu := hI.nums
  obtain ⟨F, hF⟩ : ∃ F : Int → Int, shX f n (125 + 80 * (f 1 - 1)) = F := ⟨_, rfl⟩
  have e1 : ngX f n c = adX F n (f 1 - 1) c := by rw [← hF]; exact if_neg (by omega)
  have f1 : n ≤ r → F c = f (c + 80) := fun z => by rw [← hF]; exact (if_neg (by omega)).trans (if_pos (by omega))
  have f2 : r < n → F c = f c := fun z => by rw [← hF]; exact (if_neg (by omega)).trans (if_neg (by omega))
  rw [e1]
  by_cases z : c = 125 + 80 * r
  · by_cases y : n ≤ r
    · have e2 := f1 y
      rw [z, rmG_to hn.1 y]
      rw [z, show 125 + 80 * r + 80 = 125 + 80 * (r + 1) by omega] at e2
      unfold adX
      rw [e2]
      by_cases c2 : n < f (125 + 80 * (r + 1))
      · rw [if_pos c2, if_pos (by refine ⟨by omega, by omega, by omega, c2⟩)]
      · rw [if_neg c2, if_neg (fun z => c2 z.2.2.2)]
    · have e2 := f2 (by omega)
      rw [rmG_bel (by omega) (by omega)]
      have ht := hI.tg hr.1 (show r < f 1 by omega)
      have ht2 : tgt f r = f c := by rw [z]
      exact (if_neg (fun w => by have := w.2.2.2; omega)).trans e2
  · have e3 : adX F n (f 1 - 1) c = F c := if_neg (fun w => by have := w.2.2.1; omega)
    rw [e3]
    by_cases y : n ≤ r
    · rw [f1 y, rm_up (by omega) (by omega) (by omega)]
    · rw [f2 (by omega), rmG_bel (by omega) (by omega)]
theorem ng_eq {f : Int → Int} {n : Int} (hI : PInv f) (hn : 0 ≤ n ∧ n < f 1) : MEq (rmG f n) (ngX f n) := by
  have hnu := hI.nums
  have lo : ∀ j : Int, j < 65 → ¬ j = 1 → ngX f n j = f j := fun j h h1 => (if_neg (by omega)).trans ((if_neg (by omega)).trans ((if_neg h1).trans (if_neg (by omega))))
  have l0 : ∀ j : Int, j = 1 → ngX f n j = f 1 - 1 := fun j hj => (if_neg (by omega)).trans ((if_neg (by omega)).trans (if_pos hj))
  have l1 := l0 1 rfl
  refine ⟨fun j j0 j1 => ?_, fun i i0 i1 => ?_, fun i i0 i1 => ?_⟩
  · by_cases z : j = 1
    · rw [z, rmG_1, l1]
    · rw [rmG_lo (by omega) z, lo j (by omega) z]
  · rw [rmG_lo (by omega) (by omega)] at i1
    rw [rmG_lo (by omega) (by omega), lo _ (by omega) (by omega), rmG_own i0 (by omega)]
    have e2 : ngX f n (65 + i) = dropB (f (65 + i)) n := (if_pos (by omega)).trans (congrArg (fun z => dropB z n) ((if_neg (by omega)).trans ((if_neg (by omega)).trans (if_neg (by omega)))))
    exact ⟨rfl, e2.symm⟩
  · have hl := hl_rm (g := f) hn.1 (fun k k0 k1 z => by have := hI.nt k0 k1 z; omega) i i0 i1
    rw [rmG_1] at i1
    have kk : ∀ c : Int, 125 + 80 * i ≤ c → c < 205 + 80 * i → rmG f n c = ngX f n c := fun c c0 c1 => (ng_row hI hn ⟨i0, i1⟩ c0 c1).symm
    refine ⟨kk _ (by omega) (by omega), fun q => ?_⟩
    have := hl q
    exact ⟨kk _ (by omega) (by omega), kk _ (by omega) (by omega), kk _ (by omega) (by omega), fun j j0 j1 => kk _ (by omega) (by omega), fun j j0 j1 => kk _ (by omega) (by omega), fun j j0 j1 => kk _ (by omega) (by omega)⟩
theorem fam_at {g : Int → Int} {n x : Int} (hn : 0 ≤ n) (hx : n ≤ x ∧ x < g 1) : isin (famS g n) x ↔ isin (fam g n (x - n).toNat : Int) x := by
  obtain ⟨d, hd⟩ : ∃ d : Nat, (g 1 - 1 - n).toNat = (x - n).toNat + d := ⟨(g 1 - 1 - n).toNat - (x - n).toNat, by omega⟩
  have e : famS g n = ((fam g n ((x - n).toNat + d) : Nat) : Int) := by unfold famS; rw [hd]
  unfold isin
  rw [e, fam_bit hn (x - n).toNat d x (by omega) (by omega)]
theorem fam_same {g g' : Int → Int} {n x : Int} (hn : 0 ≤ n) (hx : n ≤ x ∧ x < g 1 ∧ x < g' 1) (e : ∀ i : Int, 0 ≤ i → i ≤ x → g (125 + 80 * i) = g' (125 + 80 * i)) : isin (famS g n) x ↔ isin (famS g' n) x := by
  rw [fam_at hn ⟨hx.1, hx.2.1⟩, fam_at hn ⟨hx.1, hx.2.2⟩, fam_cong (g := g) (g' := g') (x - n).toNat (fun i i0 i1 => e i (by omega) (by omega))]
theorem cnt_zero {P : Int → Bool} : ∀ k : Nat, (∀ i : Int, 0 ≤ i → i < k → P i = false) → cnt P k = 0
  | 0, _ => rfl
  | k + 1, h => by
    rw [cnt_no (by rw [h k (by omega) (by omega)]; decide)]
    exact cnt_zero k (fun i i0 i1 => h i i0 (by omega))
theorem fam_cnt {g : Int → Int} (hI : PInv g) {n : Int} (hn : 0 ≤ n ∧ n < g 1) : cnt (fun i => btt (famS g n) i) (g 1).toNat = popc (famS g n) ∧ cnt (fun i => btt (famS g n) i) n.toNat = 0 := by
  have hnu := hI.nums
  have e0 : famS g n = ((fam g n (g 1 - 1 - n).toNat : Nat) : Int) := rfl
  have hr := fun (z : Int) (z0 : 0 ≤ z) (h : btt (famS g n) z = true) => fam_rng (g := g) hn.1 (g 1 - 1 - n).toNat z z0 (by rw [← e0]; exact h)
  constructor
  · have s2 := cnt_tail (P := fun i => btt (famS g n) i) (a := (g 1).toNat) (fun i hi => by
      cases z : btt (famS g n) i
      · rfl
      · have := hr i (by omega) z
        omega) (16 - (g 1).toNat)
    rw [show (g 1).toNat + (16 - (g 1).toNat) = 16 by omega] at s2
    exact s2.symm
  · exact cnt_zero _ (fun i i0 i1 => by
      cases z : btt (famS g n) i
      · rfl
      · have := hr i i0 z
        omega)

abbrev rm_X9_noteGoes : Room := { frames := 1, cells := 0, slots := 0, locals := 22 }
theorem zF_X9_noteGoes_7 : zF RX9 wsX9_noteGoes 9 0 7 := ⟨RX9, TX9, 17, rfl, by decide +kernel, by decide, by decide +kernel⟩
theorem cs_X9_noteGoes_45 : zCV RX9 wsX9_noteGoes 45 9 yX9_of0 wsX9_of0 cX9_of0 3 (some .int) rm_X9_noteGoes rm_X9_of0 2 := ⟨_, _, gX9_noteGoes_X9_of0, rfl, ⟨by decide +kernel, by decide +kernel, by decide +kernel⟩, ⟨Nat.le_of_ble_eq_true rfl, Nat.le_of_ble_eq_true rfl⟩, rfl, rfl⟩
set_option maxRecDepth 100000 in
theorem c_X9_noteGoes (l : Launch) (D : zD) (base : Nat) (y : Nat) (kp pd at' od fi la pc : Int) (f : Int → Int) (n : Int) (hq : base ≤ y) (hI : PInv f) (hn : 0 ≤ n ∧ n < f 1) : Ct l yX9_noteGoes wsX9_noteGoes rm_X9_noteGoes D base [.ref y, .int (J n)] (fun H => MoO D y kp pd at' od fi la pc H ∧ NwAt D y f H) (PV (fun H H1 => MoO D y kp pd at' od fi la pc H1 ∧ NwAt D y (ngX f n) H1 ∧ Fr (Iv (y + 1) (y + 2)) 0 H H1)) := by
  refine Ct.of (own := RX9) (cc := cX9_noteGoes) (maxL := 5) (by decide +kernel) rfl (Nat.le_of_ble_eq_true rfl) rfl ?_
  intro K H X R hH hnm hP
  show G K 0 0 H 0 [(0, .ref y), (1, .int (J n))] []
  obtain ⟨hO, hNw⟩ := hP
  have hnum := hI.nums
  have hp2 : 1 ≤ 2 ^ n.toNat := Nat.one_le_two_pow
  have hp3 : 2 ^ n.toNat < 2 ^ 16 := Nat.pow_lt_pow_right (by decide) (by omega)
  refine g_aload_n (pc := 0) (pl := 0) X dX9_noteGoes_0 rfl ?_
  refine g_getf (pc := 1) X zF_X9_noteGoes_7 hO rfl dX9_noteGoes_1 ?_
  refine g_iconst (pc := 4) X dX9_noteGoes_4 ?_
  refine g_dup2 (pc := 5) X dX9_noteGoes_5 rfl rfl ?_
  refine g_iaload (pc := 6) X hNw (by omega) (by omega) (by omega) dX9_noteGoes_6 ?_
  refine g_iconst (pc := 7) X dX9_noteGoes_7 ?_
  refine g_isub (pc := 8) X dX9_noteGoes_8 ?_
  refine g_iastore (pc := 9) X hNw (by omega) (by omega) (by omega) (by omega) dX9_noteGoes_9 (fun H1 hNwn hf1 => ?_)
  replace hO := hO.fr hf1 (by omega)
  replace hNw := hNwn
  clear hNwn
  refine g_bipush (pc := 10) X dX9_noteGoes_10 (by decide +kernel) ?_
  refine g_bipush (pc := 12) X dX9_noteGoes_12 (by decide +kernel) ?_
  refine g_iload_n (pc := 14) (pl := 1) X dX9_noteGoes_14 rfl ?_
  refine g_imul (pc := 15) X dX9_noteGoes_15 ?_
  refine g_iadd (pc := 16) X dX9_noteGoes_16 ?_
  refine g_istore_n (pc := 17) (lv' := [(2, _), (0, _), (1, _)]) X dX9_noteGoes_17 (by decide) rfl ?_
  have hL18 : ∀ (fu : Nat) (x : Int) (Hx : Heap), (125 + 80 * (f 1 - 1) - x).toNat < fu → (125 + 80 * n ≤ x ∧ x ≤ 125 + 80 * (f 1 - 1)) → (MoO D y kp pd at' od fi la pc Hx) → (NwAt D y (shX f n x) Hx) → (Fr (Iv (y + 1) (y + 2)) 0 H Hx) → G K 0 0 Hx 18 [(0, .ref y), (1, .int (J n)), (2, .int (J x))] [] := by
    intro fu
    induction fu with
    | zero => intro x Hx hm; exact absurd hm (Nat.not_lt_zero _)
    | succ fu ih18 =>
      intro x Hx hm hx hO hNw h3
      refine g_iload_n (pc := 18) (pl := 2) X dX9_noteGoes_18 rfl ?_
      refine g_bipush (pc := 19) X dX9_noteGoes_19 (by decide +kernel) ?_
      refine g_bipush (pc := 21) X dX9_noteGoes_21 (by decide +kernel) ?_
      refine g_aload_n (pc := 23) (pl := 0) X dX9_noteGoes_23 rfl ?_
      refine g_getf (pc := 24) X zF_X9_noteGoes_7 hO rfl dX9_noteGoes_24 ?_
      refine g_iconst (pc := 27) X dX9_noteGoes_27 ?_
      refine g_iaload (pc := 28) X hNw (by omega) (by omega) (by omega) dX9_noteGoes_28 ?_
      rw [show (shX f n x) 1 = f 1 - 1 from if_pos rfl]
      refine g_imul (pc := 29) X dX9_noteGoes_29 ?_
      refine g_iadd (pc := 30) X dX9_noteGoes_30 ?_
      refine g_icmp_ge (pc := 31) X 55 dX9_noteGoes_31 (by decide) (by omega) (by omega) (fun c31 => ?_) (fun c31 => ?_)
      · skip
        have ex : x = 125 + 80 * (f 1 - 1) := by omega
        rw [ex] at hNw
        refine g_iconst (pc := 55) X dX9_noteGoes_55 ?_
        refine g_istore_n (pc := 56) (lv' := [(2, _), (0, _), (1, _)]) X dX9_noteGoes_56 (by decide) rfl ?_
        have hL57 : ∀ (fu : Nat) (r : Int) (Hx : Heap), (f 1 - r).toNat < fu → (0 ≤ r ∧ r ≤ f 1 - 1) → (MoO D y kp pd at' od fi la pc Hx) → (NwAt D y (adX (shX f n (125 + 80 * (f 1 - 1))) n r) Hx) → (Fr (Iv (y + 1) (y + 2)) 0 H Hx) → G K 0 0 Hx 57 [(0, .ref y), (1, .int (J n)), (2, .int (J r))] [] := by
          intro fu
          induction fu with
          | zero => intro r Hx hm; exact absurd hm (Nat.not_lt_zero _)
          | succ fu ih57 =>
            intro r Hx hm hr hO hNw h3
            refine g_iload_n (pc := 57) (pl := 2) X dX9_noteGoes_57 rfl ?_
            refine g_aload_n (pc := 58) (pl := 0) X dX9_noteGoes_58 rfl ?_
            refine g_getf (pc := 59) X zF_X9_noteGoes_7 hO rfl dX9_noteGoes_59 ?_
            refine g_iconst (pc := 62) X dX9_noteGoes_62 ?_
            refine g_iaload (pc := 63) X hNw (by omega) (by omega) (by omega) dX9_noteGoes_63 ?_
            rw [show (adX (shX f n (125 + 80 * (f 1 - 1))) n r) 1 = f 1 - 1 from ((if_neg (by omega)).trans (if_pos rfl))]
            refine g_icmp_ge (pc := 64) X 103 dX9_noteGoes_64 (by decide) (by omega) (by omega) (fun c64 => ?_) (fun c64 => ?_)
            · skip
              have er : r = f 1 - 1 := by omega
              rw [er] at hNw
              refine g_iconst (pc := 103) X dX9_noteGoes_103 ?_
              refine g_iload_n (pc := 104) (pl := 1) X dX9_noteGoes_104 rfl ?_
              refine g_ishl (pc := 105) (z := J ((2 ^ n.toNat : Nat) : Int)) X dX9_noteGoes_105 ((J_shl (by omega) (by omega)).trans (by rw [show (1 : Int).toNat = 1 from rfl, Nat.one_mul])) ?_
              refine g_iconst (pc := 106) X dX9_noteGoes_106 ?_
              refine g_isub (pc := 107) X dX9_noteGoes_107 ?_
              refine g_istore_n (pc := 108) (lv' := [(2, _), (0, _), (1, _)]) X dX9_noteGoes_108 (by decide) rfl ?_
              refine g_iconst (pc := 109) X dX9_noteGoes_109 ?_
              refine g_istore_n (pc := 110) (lv' := [(3, _), (2, _), (0, _), (1, _)]) X dX9_noteGoes_110 (by decide) rfl ?_
              have hL111 : ∀ (fu : Nat) (p : Int) (Hx : Heap), (f 0 - p).toNat < fu → (0 ≤ p ∧ p ≤ f 0) → (MoO D y kp pd at' od fi la pc Hx) → (NwAt D y (odX (adX (shX f n (125 + 80 * (f 1 - 1))) n (f 1 - 1)) n p) Hx) → (Fr (Iv (y + 1) (y + 2)) 0 H Hx) → G K 0 0 Hx 111 [(0, .ref y), (1, .int (J n)), (2, .int (J (((2 ^ n.toNat : Nat) : Int) - 1))), (3, .int (J p))] [] := by
                intro fu
                induction fu with
                | zero => intro p Hx hm; exact absurd hm (Nat.not_lt_zero _)
                | succ fu ih111 =>
                  intro p Hx hm hp hO hNw h3
                  refine g_iload_n (pc := 111) (pl := 3) X dX9_noteGoes_111 rfl ?_
                  refine g_aload_n (pc := 112) (pl := 0) X dX9_noteGoes_112 rfl ?_
                  refine g_getf (pc := 113) X zF_X9_noteGoes_7 hO rfl dX9_noteGoes_113 ?_
                  refine g_iconst (pc := 116) X dX9_noteGoes_116 ?_
                  refine g_iaload (pc := 117) X hNw (by omega) (by omega) (by omega) dX9_noteGoes_117 ?_
                  rw [show (odX (adX (shX f n (125 + 80 * (f 1 - 1))) n (f 1 - 1)) n p) 0 = f 0 from ((if_neg (by omega)).trans ((if_neg (by omega)).trans ((if_neg (by omega)).trans (if_neg (by omega)))))]
                  refine g_icmp_ge (pc := 118) X 160 dX9_noteGoes_118 (by decide) (by omega) (by omega) (fun c118 => ?_) (fun c118 => ?_)
                  · skip
                    refine g_vret (pc := 160) X R hH dX9_noteGoes_160 ?_
                    have ep : p = f 0 := by omega
                    rw [ep] at hNw
                    exact ⟨hO, hNw, (h3.wide (by omega) (by omega))⟩
                  · skip
                    refine g_aload_n (pc := 121) (pl := 0) X dX9_noteGoes_121 rfl ?_
                    refine g_getf (pc := 122) X zF_X9_noteGoes_7 hO rfl dX9_noteGoes_122 ?_
                    refine g_bipush (pc := 125) X dX9_noteGoes_125 (by decide +kernel) ?_
                    refine g_iload_n (pc := 127) (pl := 3) X dX9_noteGoes_127 rfl ?_
                    refine g_iadd (pc := 128) X dX9_noteGoes_128 ?_
                    refine g_iaload (pc := 129) X hNw (by omega) (by omega) (by omega) dX9_noteGoes_129 ?_
                    rw [show (odX (adX (shX f n (125 + 80 * (f 1 - 1))) n (f 1 - 1)) n p) (65 + p) = f (65 + p) from ((if_neg (by omega)).trans ((if_neg (by omega)).trans ((if_neg (by omega)).trans (if_neg (by omega)))))]
                    refine g_istore (pc := 130) (lv' := [(4, _), (0, _), (1, _), (2, _), (3, _)]) X dX9_noteGoes_130 (by decide) rfl ?_
                    refine g_aload_n (pc := 132) (pl := 1) X dX9_noteGoes_132 rfl ?_
                    refine g_getf (pc := 133) X zF_X9_noteGoes_7 hO rfl dX9_noteGoes_133 ?_
                    refine g_bipush (pc := 136) X dX9_noteGoes_136 (by decide +kernel) ?_
                    refine g_iload_n (pc := 138) (pl := 4) X dX9_noteGoes_138 rfl ?_
                    refine g_iadd (pc := 139) X dX9_noteGoes_139 ?_
                    refine g_iload (pc := 140) (pl := 0) X dX9_noteGoes_140 rfl ?_
                    refine g_iload_n (pc := 142) (pl := 3) X dX9_noteGoes_142 rfl ?_
                    have hoy : 0 ≤ f (65 + p) ∧ f (65 + p) < 65536 := hI.own p (by omega) (by omega)
                    refine g_iand (pc := 143) (z := J (((f (65 + p)).toNat &&& (2 ^ n.toNat - 1) : Nat) : Int)) X dX9_noteGoes_143 ((J_and (by omega) (by omega)).trans (by rw [show (((2 ^ n.toNat : Nat) : Int) - 1).toNat = 2 ^ n.toNat - 1 by omega])) ?_
                    refine g_iload (pc := 144) (pl := 0) X dX9_noteGoes_144 rfl ?_
                    refine g_iconst (pc := 146) X dX9_noteGoes_146 ?_
                    refine g_ishr (pc := 147) (z := J (((f (65 + p)).toNat / 2 : Nat) : Int)) X dX9_noteGoes_147 ((J_shr (by omega) (by omega)).trans (by rw [show (1 : Int).toNat = 1 from rfl, Nat.pow_one])) ?_
                    refine g_iload_n (pc := 148) (pl := 3) X dX9_noteGoes_148 rfl ?_
                    refine g_iconst (pc := 149) X dX9_noteGoes_149 ?_
                    refine g_ixor (pc := 150) (z := J (((2 ^ n.toNat : Nat) : Int) - 1) ^^^ J (-1)) X dX9_noteGoes_150 rfl ?_
                    refine g_iand (pc := 151) (z := J (((f (65 + p)).toNat / 2 &&& (65535 ^^^ (2 ^ n.toNat - 1)) : Nat) : Int)) X dX9_noteGoes_151 ((J_andn (by omega) (by omega)).trans (by rw [Int.toNat_natCast, show (((2 ^ n.toNat : Nat) : Int) - 1).toNat = 2 ^ n.toNat - 1 by omega])) ?_
                    refine g_ior (pc := 152) (z := J (dropB (f (65 + p)) n)) X dX9_noteGoes_152 ((J_or (by first | exact Int.natCast_nonneg _ | exact Int.ofNat_nonneg _) (by first | exact Int.natCast_nonneg _ | exact Int.ofNat_nonneg _)).trans (by unfold dropB; rw [Int.toNat_natCast, Int.toNat_natCast])) ?_
                    refine g_iastore (pc := 153) X hNw (by omega) (by omega) (by omega) (by omega) dX9_noteGoes_153 (fun H2 hNwn hf2 => ?_)
                    replace hO := hO.fr hf2 (by omega)
                    replace hNw := hNwn
                    clear hNwn
                    refine g_iinc (pc := 154) (pl := 4) (x := p) (lv' := [(3, _), (4, _), (0, _), (1, _), (2, _)]) X dX9_noteGoes_154 rfl (by decide) rfl ?_
                    refine g_goto (pc := 157) X 111 dX9_noteGoes_157 (by decide) ?_
                    refine G.pick [2, 3, 4, 0] (lv' := [(0, _), (1, _), (2, _), (3, _)]) rfl ?_
                    exact ih111 (p + 1) H2 (by omega) (by omega) hO (Ia.congr hNw (fun j _ _ => odX_step hp.1 (congrArg (fun z => dropB z n) ((if_neg (by omega)).trans ((if_neg (by omega)).trans (if_neg (by omega)))).symm) j)) (Fr.trans (h3.wide (by omega) (by omega)) (hf2.wide (by omega) (by omega)))
              refine G.pick [2, 3, 1, 0] (lv' := [(0, _), (1, _), (2, _), (3, _)]) rfl ?_
              exact hL111 _ 0 Hx (Nat.lt_succ_self _) (by omega) hO (Ia.congr hNw (fun j _ _ => odX_0 j)) (h3.wide (by omega) (by omega))
            · skip
              refine g_aload_n (pc := 67) (pl := 0) X dX9_noteGoes_67 rfl ?_
              refine g_getf (pc := 68) X zF_X9_noteGoes_7 hO rfl dX9_noteGoes_68 ?_
              refine g_bipush (pc := 71) X dX9_noteGoes_71 (by decide +kernel) ?_
              refine g_bipush (pc := 73) X dX9_noteGoes_73 (by decide +kernel) ?_
              refine g_iload_n (pc := 75) (pl := 2) X dX9_noteGoes_75 rfl ?_
              refine g_imul (pc := 76) X dX9_noteGoes_76 ?_
              refine g_iadd (pc := 77) X dX9_noteGoes_77 ?_
              refine g_dup2 (pc := 78) X dX9_noteGoes_78 rfl rfl ?_
              obtain ⟨t0, ht0⟩ : ∃ z, (shX f n (125 + 80 * (f 1 - 1))) (125 + 80 * r) = z := ⟨_, rfl⟩
              have e0 : (adX (shX f n (125 + 80 * (f 1 - 1))) n r) (125 + 80 * r) = t0 := (if_neg (by omega)).trans ht0
              have hb0 : -6 ≤ t0 ∧ t0 ≤ 16 := by
                by_cases z : n ≤ r
                · have ht := hI.tg (i := r + 1) (by omega) (by omega)
                  have q : (shX f n (125 + 80 * (f 1 - 1))) (125 + 80 * r) = tgt f (r + 1) := (if_neg (by omega)).trans ((if_pos (by omega)).trans (congrArg f (by omega)))
                  omega
                · have ht := hI.tg (i := r) (by omega) (by omega)
                  have q : (shX f n (125 + 80 * (f 1 - 1))) (125 + 80 * r) = tgt f r := (if_neg (by omega)).trans (if_neg (by omega))
                  omega
              refine g_iaload (pc := 79) X hNw (by omega) (by omega) (by omega) dX9_noteGoes_79 ?_
              rw [show (adX (shX f n (125 + 80 * (f 1 - 1))) n r) (125 + (80 * r)) = t0 from e0]
              refine g_aload_n (pc := 80) (pl := 0) X dX9_noteGoes_80 rfl ?_
              refine g_iload_n (pc := 81) (pl := 2) X dX9_noteGoes_81 rfl ?_
              refine g_iconst (pc := 82) X dX9_noteGoes_82 ?_
              refine gVi (pc := 83) (n2 := 0) (k2 := 0) X cs_X9_noteGoes_45 (c_X9_of0 (zl K) D base y kp pd at' od fi la pc (adX (shX f n (125 + 80 * (f 1 - 1))) n r) r 0 hq (by omega) (by omega)) rfl hO (by omega) ⟨hO, hNw⟩ rfl ⟨Nat.le_of_ble_eq_true rfl, Nat.le_of_ble_eq_true rfl⟩ dX9_noteGoes_83 (Nat.le_of_ble_eq_true rfl) rfl rfl (fun v83 H2 hp83 hs83 => ?_)
              obtain ⟨rfl, rfl⟩ := hp83
              rw [show (adX (shX f n (125 + 80 * (f 1 - 1))) n r) (125 + 80 * r + 0) = t0 by rw [Int.add_zero]; exact e0]
              refine g_iload_n (pc := 86) (pl := 1) X dX9_noteGoes_86 rfl ?_
              refine g_icmp_le (pc := 87) X 94 dX9_noteGoes_87 (by decide) (by omega) (by omega) (fun c87 => ?_) (fun c87 => ?_)
              · skip
                refine g_iconst (pc := 94) X dX9_noteGoes_94 ?_
                refine g_isub (pc := 95) X dX9_noteGoes_95 ?_
                refine g_iastore (pc := 96) X hNw (by omega) (by omega) (by omega) (by omega) dX9_noteGoes_96 (fun H2 hNwn hf2 => ?_)
                replace hO := hO.fr hf2 (by omega)
                replace hNw := hNwn
                clear hNwn
                refine g_iinc (pc := 97) (pl := 2) (x := r) (lv' := [(2, _), (0, _), (1, _)]) X dX9_noteGoes_97 rfl (by decide) rfl ?_
                refine g_goto (pc := 100) X 57 dX9_noteGoes_100 (by decide) ?_
                refine G.pick [1, 2, 0] (lv' := [(0, _), (1, _), (2, _)]) rfl ?_
                exact ih57 (r + 1) H2 (by omega) (by omega) hO (Ia.congr hNw (fun j _ _ => adX_step hr.1 (by rw [ht0]; first | (rw [if_pos (by omega)]; done) | (rw [if_neg (by omega)]; omega)) j)) (Fr.trans (h3.wide (by omega) (by omega)) (hf2.wide (by omega) (by omega)))
              · skip
                refine g_iconst (pc := 90) X dX9_noteGoes_90 ?_
                refine g_goto (pc := 91) X 95 dX9_noteGoes_91 (by decide) ?_
                refine g_isub (pc := 95) X dX9_noteGoes_95 ?_
                refine g_iastore (pc := 96) X hNw (by omega) (by omega) (by omega) (by omega) dX9_noteGoes_96 (fun H2 hNwn hf2 => ?_)
                replace hO := hO.fr hf2 (by omega)
                replace hNw := hNwn
                clear hNwn
                refine g_iinc (pc := 97) (pl := 2) (x := r) (lv' := [(2, _), (0, _), (1, _)]) X dX9_noteGoes_97 rfl (by decide) rfl ?_
                refine g_goto (pc := 100) X 57 dX9_noteGoes_100 (by decide) ?_
                refine G.pick [1, 2, 0] (lv' := [(0, _), (1, _), (2, _)]) rfl ?_
                exact ih57 (r + 1) H2 (by omega) (by omega) hO (Ia.congr hNw (fun j _ _ => adX_step hr.1 (by rw [ht0]; first | (rw [if_pos (by omega)]; done) | (rw [if_neg (by omega)]; omega)) j)) (Fr.trans (h3.wide (by omega) (by omega)) (hf2.wide (by omega) (by omega)))
        refine G.pick [1, 2, 0] (lv' := [(0, _), (1, _), (2, _)]) rfl ?_
        exact hL57 _ 0 Hx (Nat.lt_succ_self _) (by omega) hO (Ia.congr hNw (fun j _ _ => adX_0 j)) (h3.wide (by omega) (by omega))
      · skip
        refine g_aload_n (pc := 34) (pl := 0) X dX9_noteGoes_34 rfl ?_
        refine g_getf (pc := 35) X zF_X9_noteGoes_7 hO rfl dX9_noteGoes_35 ?_
        refine g_iload_n (pc := 38) (pl := 2) X dX9_noteGoes_38 rfl ?_
        refine g_aload_n (pc := 39) (pl := 0) X dX9_noteGoes_39 rfl ?_
        refine g_getf (pc := 40) X zF_X9_noteGoes_7 hO rfl dX9_noteGoes_40 ?_
        refine g_iload_n (pc := 43) (pl := 2) X dX9_noteGoes_43 rfl ?_
        refine g_bipush (pc := 44) X dX9_noteGoes_44 (by decide +kernel) ?_
        refine g_iadd (pc := 46) X dX9_noteGoes_46 ?_
        refine g_iaload (pc := 47) X hNw (by omega) (by omega) (by omega) dX9_noteGoes_47 ?_
        refine g_iastore (pc := 48) X hNw (by omega) (by omega) (by omega) (by omega) dX9_noteGoes_48 (fun H2 hNwn hf2 => ?_)
        replace hO := hO.fr hf2 (by omega)
        replace hNw := hNwn
        clear hNwn
        refine g_iinc (pc := 49) (pl := 2) (x := x) (lv' := [(2, _), (0, _), (1, _)]) X dX9_noteGoes_49 rfl (by decide) rfl ?_
        refine g_goto (pc := 52) X 18 dX9_noteGoes_52 (by decide) ?_
        refine G.pick [1, 2, 0] (lv' := [(0, _), (1, _), (2, _)]) rfl ?_
        exact ih18 (x + 1) H2 (by omega) (by omega) hO (Ia.congr hNw (fun j _ _ => shX_step hn.1 hx.1 j)) (Fr.trans (h3.wide (by omega) (by omega)) (hf2.wide (by omega) (by omega)))
  refine G.pick [1, 2, 0] (lv' := [(0, _), (1, _), (2, _)]) rfl ?_
  exact hL18 _ (125 + 80 * n) H1 (Nat.lt_succ_self _) (by omega) hO (Ia.congr hNw (fun j _ _ => shX_0 j)) (hf1.wide (by omega) (by omega))

abbrev rm_X9_drops : Room := { frames := 3, cells := 0, slots := 0, locals := 66 }
theorem zF_X9_drops_7 : zF RX9 wsX9_drops 9 0 7 := ⟨RX9, TX9, 17, rfl, by decide +kernel, by decide, by decide +kernel⟩
theorem cs_X9_drops_88 : zCV RX9 wsX9_drops 88 9 yX9_isBelow wsX9_isBelow cX9_isBelow 4 (some .boolean) rm_X9_drops rm_X9_isBelow 2 := ⟨_, _, gX9_drops_X9_isBelow, rfl, ⟨by decide +kernel, by decide +kernel, by decide +kernel⟩, ⟨Nat.le_of_ble_eq_true rfl, Nat.le_of_ble_eq_true rfl⟩, rfl, rfl⟩
theorem cs_X9_drops_149 : zCV RX9 wsX9_drops 149 9 yX9_noteGoes wsX9_noteGoes cX9_noteGoes 5 none rm_X9_drops rm_X9_noteGoes 1 := ⟨_, _, gX9_drops_X9_noteGoes, rfl, ⟨by decide +kernel, by decide +kernel, by decide +kernel⟩, ⟨Nat.le_of_ble_eq_true rfl, Nat.le_of_ble_eq_true rfl⟩, rfl, rfl⟩
set_option maxRecDepth 100000 in
theorem c_X9_drops (l : Launch) (D : zD) (base : Nat) (y : Nat) (kp pd at' od fi la pc : Int) (f : Int → Int) (n : Int) (hq : base ≤ y) (hI : PInv f) (hn : 0 ≤ n ∧ n < f 1) : Ct l yX9_drops wsX9_drops rm_X9_drops D base [.ref y, .int (J n)] (fun H => MoO D y kp pd at' od fi la pc H ∧ NwAt D y f H) (PI (fun H v H1 => popc (famS f n) = v ∧ (∃ f2 : Int → Int, MEq (drp (famS f n) (f 1 - n).toNat n f) f2 ∧ NwAt D y f2 H1) ∧ MoO D y kp pd at' od fi la pc H1 ∧ Fr (Iv (y + 1) (y + 2)) 0 H H1)) := by
  refine Ct.of (own := RX9) (cc := cX9_drops) (maxL := 4) (by decide +kernel) rfl (Nat.le_of_ble_eq_true rfl) rfl ?_
  intro K H X R hH hnm hP
  show G K 0 0 H 0 [(0, .ref y), (1, .int (J n))] []
  obtain ⟨hO, hNw⟩ := hP
  have hnum := hI.nums
  have hfc := fam_cnt hI hn
  refine g_iconst (pc := 0) X dX9_drops_0 ?_
  refine g_istore_n (pc := 1) (lv' := [(2, _), (0, _), (1, _)]) X dX9_drops_1 (by decide) rfl ?_
  refine g_aload_n (pc := 2) (pl := 1) X dX9_drops_2 rfl ?_
  refine g_getf (pc := 3) X zF_X9_drops_7 hO rfl dX9_drops_3 ?_
  refine g_iconst (pc := 6) X dX9_drops_6 ?_
  refine g_iaload (pc := 7) X hNw (by omega) (by omega) (by omega) dX9_drops_7 ?_
  refine g_iconst (pc := 8) X dX9_drops_8 ?_
  refine g_isub (pc := 9) X dX9_drops_9 ?_
  refine g_istore_n (pc := 10) (lv' := [(3, _), (2, _), (0, _), (1, _)]) X dX9_drops_10 (by decide) rfl ?_
  have hL11 : ∀ (fu : Nat) (x c : Int) (gx fx : Int → Int) (Hx : Heap), (x + 1 - n).toNat < fu → (n - 1 ≤ x ∧ x + 1 ≤ gx 1 ∧ x < f 1) → (MEq gx fx) → (PInv gx) → (Clo (famS f n) n (x + 1 - n).toNat gx) → (drp (famS f n) (f 1 - n).toNat n f = drp (famS f n) (x + 1 - n).toNat n gx) → (∀ i : Int, 0 ≤ i → i ≤ x → gx (125 + 80 * i) = f (125 + 80 * i)) → (c + cnt (fun i => btt (famS f n) i) (x + 1).toNat = popc (famS f n)) → (MoO D y kp pd at' od fi la pc Hx) → (NwAt D y fx Hx) → (Fr (Iv (y + 1) (y + 2)) 0 H Hx) → G K 0 0 Hx 11 [(0, .ref y), (1, .int (J n)), (2, .int (J c)), (3, .int (J x))] [] := by
    intro fu
    induction fu with
    | zero => intro x c gx fx Hx hm; exact absurd hm (Nat.not_lt_zero _)
    | succ fu ih11 =>
      intro x c gx fx Hx hm hx hE hG hC hd ht hc hO hNw h3
      have hIx := hG.meq hE
      have hnx := hIx.nums
      have ex1 := hE.1 1 (by omega) (by omega)
      refine g_iload_n (pc := 11) (pl := 3) X dX9_drops_11 rfl ?_
      refine g_iload_n (pc := 12) (pl := 1) X dX9_drops_12 rfl ?_
      refine g_icmp_lt (pc := 13) X 39 dX9_drops_13 (by decide) (by omega) (by omega) (fun c13 => ?_) (fun c13 => ?_)
      · skip
        refine g_iload_n (pc := 39) (pl := 2) X dX9_drops_39 rfl ?_
        refine g_iret (pc := 40) X R hH dX9_drops_40 ?_
        have ex : (x + 1 - n).toNat = 0 := by omega
        have ex2 : (x + 1).toNat = n.toNat := by omega
        rw [ex2, hfc.2] at hc
        rw [ex] at hd
        exact ⟨by omega, ⟨fx, by rw [hd]; exact hE, hNw⟩, hO, (h3.wide (by omega) (by omega))⟩
      · skip
        refine g_aload_n (pc := 16) (pl := 0) X dX9_drops_16 rfl ?_
        refine g_iload_n (pc := 17) (pl := 3) X dX9_drops_17 rfl ?_
        refine g_iload_n (pc := 18) (pl := 1) X dX9_drops_18 rfl ?_
        refine gVi (pc := 19) (n2 := 0) (k2 := 0) X cs_X9_drops_88 (c_X9_isBelow (zl K) D base y kp pd at' od fi la pc fx x n hq hIx (by omega) (by omega)) rfl hO (by omega) ⟨hO, hNw⟩ rfl ⟨Nat.le_of_ble_eq_true rfl, Nat.le_of_ble_eq_true rfl⟩ dX9_drops_19 (Nat.le_of_ble_eq_true rfl) rfl rfl (fun v19 H1 hp19 hs19 => ?_)
        obtain ⟨rfl, rfl⟩ := hp19
        have hfs := fam_same (g := fx) (g' := f) (n := n) (x := x) hn.1 (by omega) (fun i i0 i1 => ((hE.2.2 i i0 (by omega)).1.symm).trans (ht i i0 i1))
        refine g_if_eq (pc := 22) X 33 dX9_drops_22 (by decide) (zbr _) (fun c22 => ?_) (fun c22 => ?_)
        · skip
          replace c22 := zb0 c22
          refine g_iinc (pc := 33) (pl := 3) (x := x) (lv' := [(3, _), (0, _), (1, _), (2, _)]) X dX9_drops_33 rfl (by decide) rfl ?_
          refine g_goto (pc := 36) X 11 dX9_drops_36 (by decide) ?_
          refine G.pick [1, 2, 3, 0] (lv' := [(0, _), (1, _), (2, _), (3, _)]) rfl ?_
          have ec : n + ((x - n).toNat : Int) = x := by omega
          rw [show (x + 1 - n).toNat = (x - n).toNat + 1 by omega] at hC
          have ex2 : (x + (-1) + 1 - n).toNat = (x - n).toNat := by omega
          have ex3 : (x + (-1) + 1).toNat = x.toNat := by omega
          have ex4 : (x + 1).toNat = x.toNat + 1 := by omega
          have exx : (x.toNat : Int) = x := by omega
          have hds := drp_step (m := (famS f n)) (n := n) (i := x) (g := gx) (by omega)
          have hin : ¬ isin (famS f n) x := fun z => c22 (hfs.mpr z)
          rw [if_neg hin] at hds
          have hC2 := dps_no (c := (x - n).toNat) hC (by rw [ec]; exact hin)
          have hc1 := cnt_no (P := fun i => btt (famS f n) i) (n := x.toNat) (fun z => hin ⟨by omega, by omega, by rw [exx] at z; exact z⟩)
          exact ih11 (x + (-1)) _ _ _ Hx (by omega) (by omega) hE hG (by rw [ex2]; exact hC2) (by rw [ex2]; exact hd.trans hds) (fun i i0 i1 => ht i i0 (by omega)) (by rw [ex3]; rw [ex4] at hc; omega) hO hNw (h3.wide (by omega) (by omega))
        · skip
          replace c22 := zb1 c22
          refine g_aload_n (pc := 25) (pl := 0) X dX9_drops_25 rfl ?_
          refine g_iload_n (pc := 26) (pl := 3) X dX9_drops_26 rfl ?_
          refine gVv (pc := 27) (n2 := 0) (k2 := 0) X cs_X9_drops_149 (c_X9_noteGoes (zl K) D base y kp pd at' od fi la pc fx x hq hIx (by omega)) rfl hO (by omega) ⟨hO, hNw⟩ rfl ⟨Nat.le_of_ble_eq_true rfl, Nat.le_of_ble_eq_true rfl⟩ dX9_drops_27 (Nat.le_of_ble_eq_true rfl) rfl rfl (fun H1 hp27 hs27 => ?_)
          obtain ⟨hOn, hNwn, hfg⟩ := hp27
          clear hO hNw
          have hO := hOn
          have hNw := hNwn
          clear hOn hNwn
          refine g_iinc (pc := 30) (pl := 2) (x := c) (lv' := [(2, _), (0, _), (1, _), (3, _)]) X dX9_drops_30 rfl (by decide) rfl ?_
          refine g_iinc (pc := 33) (pl := 3) (x := x) (lv' := [(3, _), (2, _), (0, _), (1, _)]) X dX9_drops_33 rfl (by decide) rfl ?_
          refine g_goto (pc := 36) X 11 dX9_drops_36 (by decide) ?_
          refine G.pick [2, 3, 1, 0] (lv' := [(0, _), (1, _), (2, _), (3, _)]) rfl ?_
          have ec : n + ((x - n).toNat : Int) = x := by omega
          rw [show (x + 1 - n).toNat = (x - n).toNat + 1 by omega] at hC
          have ex2 : (x + (-1) + 1 - n).toNat = (x - n).toNat := by omega
          have ex3 : (x + (-1) + 1).toNat = x.toNat := by omega
          have ex4 : (x + 1).toNat = x.toNat + 1 := by omega
          have exx : (x.toNat : Int) = x := by omega
          have hds := drp_step (m := (famS f n)) (n := n) (i := x) (g := gx) (by omega)
          have hin : isin (famS f n) x := hfs.mp c22
          rw [if_pos hin] at hds
          obtain ⟨hG2, hC2⟩ := dps_yes (c := (x - n).toNat) hn.1 hG (by omega) hC (by rw [ec]; exact hin)
          rw [ec] at hG2 hC2
          have hE2 := (mq_rm hE hG (k := x) (by omega)).trans (ng_eq hIx (n := x) (by omega))
          have hc1 := cnt_yes (P := fun i => btt (famS f n) i) (n := x.toNat) (by rw [exx]; exact hin.2.2)
          have x1 : rmG gx x 1 = gx 1 - 1 := rmG_1 gx x
          exact ih11 (x + (-1)) _ _ _ H1 (by omega) (by omega) hE2 hG2 (by rw [ex2]; exact hC2) (by rw [ex2]; exact hd.trans hds) (fun i i0 i1 => (rmG_bel (by omega) (by omega)).trans (ht i i0 (by omega))) (by rw [ex3]; rw [ex4] at hc; omega) hO hNw (Fr.trans (h3.wide (by omega) (by omega)) (hfg.wide (by omega) (by omega)))
  refine G.pick [2, 3, 1, 0] (lv' := [(0, _), (1, _), (2, _), (3, _)]) rfl ?_
  have e1 : (f 1 - 1 + 1 - n).toNat = (f 1 - n).toNat := by omega
  have e2 : (f 1 - 1 + 1).toNat = (f 1).toNat := by omega
  exact hL11 _ (f 1 - 1) 0 f f H (Nat.lt_succ_self _) (by omega) (MEq.refl f) hI (by rw [e1]; exact fam_clo hI hn) (by rw [e1]) (fun i i0 i1 => rfl) (by rw [e2]; omega) hO hNw (Fr.refl _ _)

abbrev rm_X9_drop : Room := { frames := 4, cells := 0, slots := 0, locals := 89 }
theorem cs_X9_drop_140 : zCV RX9 wsX9_drop 140 9 yX9_isNote wsX9_isNote cX9_isNote 2 (some .boolean) rm_X9_drop rm_X9_isNote 1 := ⟨_, _, gX9_drop_X9_isNote, rfl, ⟨by decide +kernel, by decide +kernel, by decide +kernel⟩, ⟨Nat.le_of_ble_eq_true rfl, Nat.le_of_ble_eq_true rfl⟩, rfl, rfl⟩
theorem cs_X9_drop_57 : zCV RX9 wsX9_drop 57 9 yX9_records wsX9_records cX9_records 2 none rm_X9_drop rm_X9_records 0 := ⟨_, _, gX9_drop_X9_records, rfl, ⟨by decide +kernel, by decide +kernel, by decide +kernel⟩, ⟨Nat.le_of_ble_eq_true rfl, Nat.le_of_ble_eq_true rfl⟩, rfl, rfl⟩
theorem cs_X9_drop_152 : zCV RX9 wsX9_drop 152 9 yX9_drops wsX9_drops cX9_drops 4 (some .int) rm_X9_drop rm_X9_drops 1 := ⟨_, _, gX9_drop_X9_drops, rfl, ⟨by decide +kernel, by decide +kernel, by decide +kernel⟩, ⟨Nat.le_of_ble_eq_true rfl, Nat.le_of_ble_eq_true rfl⟩, rfl, rfl⟩
set_option maxRecDepth 100000 in
theorem c_X9_drop (l : Launch) (D : zD) (base : Nat) (y : Nat) (kp pd at' od fi la pc : Int) (f : Int → Int) (st : Int → Int → Int) (n : Int) (hq : base ≤ y) (hI : PInv f) (hkp : 0 ≤ kp ∧ kp ≤ 6) (hn : rg n) : Ct l yX9_drop wsX9_drop rm_X9_drop D base [.ref y, .int (J n)] (fun H => MoO D y kp pd at' od fi la pc H ∧ NwAt D y f H ∧ PaAt D y kp st H) (PI (fun H v H1 => dpR f n = v ∧ (∃ f2 : Int → Int, MEq (dpG f n) f2 ∧ NwAt D y f2 H1) ∧ MoO D y (hsN kp (dpR f n)) pd at' od fi la pc H1 ∧ PaAt D y (hsN kp (dpR f n)) (hsS kp (dpR f n) st f) H1 ∧ Fr (Iv y (y + 3)) 0 H H1)) := by
  refine Ct.of (own := RX9) (cc := cX9_drop) (maxL := 2) (by decide +kernel) rfl (Nat.le_of_ble_eq_true rfl) rfl ?_
  intro K H X R hH hnm hP
  show G K 0 0 H 0 [(0, .ref y), (1, .int (J n))] []
  obtain ⟨hO, hNw, hPa⟩ := hP
  have hnum := hI.nums
  refine g_aload_n (pc := 0) (pl := 0) X dX9_drop_0 rfl ?_
  refine g_iload_n (pc := 1) (pl := 1) X dX9_drop_1 rfl ?_
  refine gVi (pc := 2) (n2 := 0) (k2 := 0) X cs_X9_drop_140 (c_X9_isNote (zl K) D base y kp pd at' od fi la pc f n hq hI (by omega)) rfl hO (by omega) ⟨hO, hNw⟩ rfl ⟨Nat.le_of_ble_eq_true rfl, Nat.le_of_ble_eq_true rfl⟩ dX9_drop_2 (Nat.le_of_ble_eq_true rfl) rfl rfl (fun v2 H1 hp2 hs2 => ?_)
  obtain ⟨rfl, rfl⟩ := hp2
  refine g_if_ne (pc := 5) X 10 dX9_drop_5 (by decide) (zbr _) (fun c5 => ?_) (fun c5 => ?_)
  · skip
    replace c5 := zb1 c5
    refine g_aload_n (pc := 10) (pl := 0) X dX9_drop_10 rfl ?_
    obtain ⟨ps, hPs, hst⟩ := id hPa
    refine gVv (pc := 11) (n2 := 0) (k2 := 0) X cs_X9_drop_57 (c_X9_records (zl K) D base y kp pd at' od fi la pc f ps hq hkp) rfl hO (by omega) ⟨hO, hNw, hPs⟩ rfl ⟨Nat.le_of_ble_eq_true rfl, Nat.le_of_ble_eq_true rfl⟩ dX9_drop_11 (Nat.le_of_ble_eq_true rfl) rfl rfl (fun H1 hp11 hs11 => ?_)
    obtain ⟨hOn, hNwn, ⟨ps2, hPs2, hr2⟩, hfr⟩ := hp11
    have hPan : PaAt D y (hpN kp) (hpS kp st f) H1 := ⟨ps2, hPs2, hpS_rec hkp hst hr2⟩
    clear hO hNw hPa hPs
    have hO := hOn
    have hNw := hNwn
    have hPa := hPan
    clear hOn hNwn hPan hPs2
    refine g_aload_n (pc := 14) (pl := 0) X dX9_drop_14 rfl ?_
    refine g_iload_n (pc := 15) (pl := 1) X dX9_drop_15 rfl ?_
    refine gVi (pc := 16) (n2 := 0) (k2 := 0) X cs_X9_drop_152 (c_X9_drops (zl K) D base y (hpN kp) pd at' od fi la pc f n hq hI (by omega)) rfl hO (by omega) ⟨hO, hNw⟩ rfl ⟨Nat.le_of_ble_eq_true rfl, Nat.le_of_ble_eq_true rfl⟩ dX9_drop_16 (Nat.le_of_ble_eq_true rfl) rfl rfl (fun v16 H2 hp16 hs16 => ?_)
    obtain ⟨hv16, ⟨f2, hm2, hNwn⟩, hOn, hfc⟩ := hp16
    subst hv16
    replace hO := hO.fr hfc (by omega)
    replace hPa := hPa.fr hfc (by omega)
    clear hO hNw
    have hO := hOn
    have hNw := hNwn
    refine g_iret (pc := 19) X R hH dX9_drop_19 ?_
    have er : dpR f n = popc (famS f n) := if_neg (fun z => z c5)
    have hpc := popc_rg (famS f n)
    have eg : dpG f n = drp (famS f n) (f 1 - n).toNat n f := if_neg (fun z => z c5)
    rw [er, eg]
    rw [show hsN kp (popc (famS f n)) = hpN kp from if_neg (by omega), show hsS kp (popc (famS f n)) st f = hpS kp st f from if_neg (by omega)]
    exact ⟨rfl, ⟨f2, hm2, hNw⟩, hO, hPa, (Fr.trans (hfr.wide (by omega) (by omega)) (hfc.wide (by omega) (by omega)))⟩
  · skip
    replace c5 := zb0 c5
    refine g_iconst (pc := 8) X dX9_drop_8 ?_
    refine g_iret (pc := 9) X R hH dX9_drop_9 ?_
    have er : dpR f n = -1 := if_pos c5
    rw [er]
    rw [show hsN kp (-1) = kp from if_pos (by omega), show hsS kp (-1) st f = st from if_pos (by omega)]
    exact ⟨rfl, ⟨f, by rw [show dpG f n = f from if_pos c5]; exact MEq.refl _, hNw⟩, hO, hPa, Fr.refl _ _⟩

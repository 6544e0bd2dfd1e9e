theorem fam_rng {g : Int → Int} {n : Int} (hn : 0 ≤ n) : ∀ (k : Nat) (z : Int), 0 ≤ z → btt (fam g n k : Int) z = true → n ≤ z ∧ z ≤ n + k
  | 0, z, h0, h => by
    unfold btt at h
    rw [Int.toNat_natCast] at h
    by_cases c : n.toNat = z.toNat
    · omega
    · rw [show fam g n 0 = 2 ^ n.toNat from rfl, Nat.testBit_two_pow_of_ne c] at h
      cases h
  | k + 1, z, h0, h => by
    by_cases c : isin (fam g n k : Int) (tgt g (n + 1 + k))
    · rw [fam_yes c] at h
      unfold btt at h
      rw [Int.toNat_natCast, Nat.testBit_or, Bool.or_eq_true] at h
      rcases h with h | h
      · have := fam_rng hn k z h0 (by unfold btt; rw [Int.toNat_natCast]; exact h)
        omega
      · by_cases c2 : (n + 1 + (k : Int)).toNat = z.toNat
        · omega
        · rw [Nat.testBit_two_pow_of_ne c2] at h
          cases h
    · rw [fam_no c] at h
      have := fam_rng hn k z h0 h
      omega
/-- a note of a family is its first, or answers one of it -/
theorem fam_self {g : Int → Int} {n : Int} (hn : 0 ≤ n ∧ n < 16) (k : Nat) : isin (fam g n k : Int) n := by
  refine ⟨hn.1, hn.2, ?_⟩
  have e := fam_bit (g := g) hn.1 0 k n hn.1 (by omega)
  rw [Nat.zero_add] at e
  rw [e]
  unfold btt
  rw [Int.toNat_natCast]
  exact Nat.testBit_two_pow_self
theorem fam_iff {g : Int → Int} (h : PInv g) {n i : Int} (hn : 0 ≤ n ∧ n < g 1) (hi : 0 ≤ i ∧ i < g 1) (hne : ¬ i = n) : isin (famS g n) i ↔ isin (famS g n) (tgt g i) := by
  have hnu := h.nums
  have ht := h.tg hi.1 hi.2
  have e0 : famS g n = ((fam g n (g 1 - 1 - n).toNat : Nat) : Int) := rfl
  have hr := fun z => fam_rng (g := g) hn.1 (g 1 - 1 - n).toNat z
  by_cases c : i < n
  · constructor
    · intro q
      have := hr i hi.1 (by rw [← e0]; exact q.2.2)
      omega
    · intro q
      have := hr (tgt g i) q.1 (by rw [← e0]; exact q.2.2)
      have := q.1
      omega
  · obtain ⟨k, hk⟩ : ∃ k : Nat, i = n + 1 + (k : Int) := ⟨(i - n - 1).toNat, by omega⟩
    obtain ⟨d, hd⟩ : ∃ d : Nat, (g 1 - 1 - n).toNat = k + 1 + d := ⟨(g 1 - 1 - n).toNat - (k + 1), by omega⟩
    have e1 : famS g n = ((fam g n (k + 1 + d) : Nat) : Int) := by rw [e0, hd]
    have b1 : btt (famS g n) i = btt (fam g n (k + 1) : Int) i := by rw [e1]; exact fam_bit hn.1 (k + 1) d i hi.1 (by omega)
    have b2 : ∀ t : Int, 0 ≤ t → t ≤ n + k → btt (famS g n) t = btt (fam g n k : Int) t := fun t t0 t1 => by rw [e1, show k + 1 + d = k + (1 + d) by omega]; exact fam_bit hn.1 k (1 + d) t t0 t1
    by_cases c2 : isin (fam g n k : Int) (tgt g (n + 1 + k))
    · have c3 := c2
      rw [← hk] at c3
      refine ⟨fun _ => ⟨c3.1, c3.2.1, by rw [b2 _ c3.1 (by omega)]; exact c3.2.2⟩, fun _ => ⟨hi.1, by omega, ?_⟩⟩
      rw [b1, fam_yes c2]
      unfold btt
      rw [Int.toNat_natCast, Nat.testBit_or, show i.toNat = (n + 1 + (k : Int)).toNat by omega, Nat.testBit_two_pow_self, Bool.or_true]
    · have c3 := c2
      rw [← hk] at c3
      refine ⟨fun q => ?_, fun q => absurd ⟨q.1, q.2.1, by rw [← b2 _ q.1 (by omega)]; exact q.2.2⟩ c3⟩
      have q2 := q.2.2
      rw [b1, fam_no c2] at q2
      have := fam_rng (g := g) hn.1 k i hi.1 q2
      omega
theorem cnt_tail {P : Int → Bool} {a : Nat} (h : ∀ i : Int, (a : Int) ≤ i → P i = false) : ∀ d : Nat, cnt P (a + d) = cnt P a
  | 0 => rfl
  | d + 1 => by
    have e : cnt P (a + d + 1) = cnt P (a + d) := cnt_no (by rw [h _ (by omega)]; decide)
    exact e.trans (cnt_tail h d)
theorem below_eq {g : Int → Int} (h : PInv g) {n : Int} (hn : 0 ≤ n ∧ n < g 1) : cnt (fun i => decide (¬ i = n ∧ isin (famS g n) i)) (g 1).toNat = popc (famS g n) - 1 := by
  have hnu := h.nums
  have e0 : famS g n = ((fam g n (g 1 - 1 - n).toNat : Nat) : Int) := rfl
  have s1 := cnt_set (P := fun i => decide (¬ i = n ∧ isin (famS g n) i)) (P' := fun i => decide (isin (famS g n) i)) (z := n) (fun i hi => by
    by_cases c : isin (famS g n) i
    · exact (decide_eq_true c).trans (decide_eq_true ⟨hi, c⟩).symm
    · exact (decide_eq_false c).trans (decide_eq_false (fun z => c z.2)).symm) (decide_eq_false (fun z => z.1 rfl)) (decide_eq_true (by rw [e0]; exact fam_self (by omega) _)) (k := (g 1).toNat)
  rw [if_pos (by omega)] at s1
  have s2 := cnt_tail (P := fun i => decide (isin (famS g n) i)) (a := (g 1).toNat) (fun i hi => decide_eq_false (fun q => by
    have := fam_rng (g := g) hn.1 (g 1 - 1 - n).toNat i q.1 (by rw [← e0]; exact q.2.2)
    omega)) (16 - (g 1).toNat)
  rw [show (g 1).toNat + (16 - (g 1).toNat) = 16 by omega] at s2
  have s3 : popc (famS g n) = cnt (fun i => decide (isin (famS g n) i)) 16 := by
    unfold popc
    refine cnt_congr (fun i i0 i1 => ?_)
    by_cases c : btt (famS g n) i = true
    · exact c.trans (decide_eq_true ⟨i0, by omega, c⟩).symm
    · exact (Bool.eq_false_iff.mpr c).trans (decide_eq_false (fun q => c q.2.2)).symm
  omega

abbrev rm_X9_mayWrite : Room := { frames := 1, cells := 0, slots := 0, locals := 22 }
theorem zF_X9_mayWrite_7 : zF RX9 wsX9_mayWrite 9 0 7 := ⟨RX9, TX9, 17, rfl, by decide +kernel, by decide, by decide +kernel⟩
theorem cs_X9_mayWrite_41 : zCJ RX9 wsX9_mayWrite 41 yX9_in wsX9_in cX9_in 3 (some .boolean) rm_X9_mayWrite rm_X9_in 3 := ⟨_, gX9_mayWrite_X9_in, rfl, ⟨by decide +kernel, by decide +kernel, by decide +kernel⟩, ⟨Nat.le_of_ble_eq_true rfl, Nat.le_of_ble_eq_true rfl⟩⟩
set_option maxRecDepth 100000 in
theorem c_X9_mayWrite (l : Launch) (D : zD) (base : Nat) (y : Nat) (kp pd at' od fi la pc : Int) (f : Int → Int) (p c : Int) (hq : base ≤ y) (hI : PInv f) (hp : rg p) (hc : rg c) : Ct l yX9_mayWrite wsX9_mayWrite rm_X9_mayWrite D base [.ref y, .int (J p), .int (J c)] (fun H => MoO D y kp pd at' od fi la pc H ∧ NwAt D y f H) (PI (fun H v H1 => H = H1 ∧ (if ¬ (0 ≤ p ∧ p ≤ f 0) then -1 else if ¬ (0 ≤ c ∧ c < 26) then -2 else if 60 ≤ f 0 then -4 else 0) = v)) := by
  refine Ct.of (own := RX9) (cc := cX9_mayWrite) (maxL := 3) (by decide +kernel) rfl (Nat.le_of_ble_eq_true rfl) rfl ?_
  intro K H X R hH hnm hP
  show G K 0 0 H 0 [(0, .ref y), (1, .int (J p)), (2, .int (J c))] []
  obtain ⟨hO, hNw⟩ := hP
  have hnum := hI.nums
  refine g_iload_n (pc := 0) (pl := 1) X dX9_mayWrite_0 rfl ?_
  refine g_iconst (pc := 1) X dX9_mayWrite_1 ?_
  refine g_aload_n (pc := 2) (pl := 0) X dX9_mayWrite_2 rfl ?_
  refine g_getf (pc := 3) X zF_X9_mayWrite_7 hO rfl dX9_mayWrite_3 ?_
  refine g_iconst (pc := 6) X dX9_mayWrite_6 ?_
  refine g_iaload (pc := 7) X hNw (by omega) (by omega) (by omega) dX9_mayWrite_7 ?_
  refine gJi (pc := 8) (n2 := 0) (k2 := 0) X cs_X9_mayWrite_41 (c_X9_in (zl K) D base p 0 (f 0) (by omega) (by omega) (by omega)) rfl (by have := hO.lt; omega) trivial rfl ⟨Nat.le_of_ble_eq_true rfl, Nat.le_of_ble_eq_true rfl⟩ dX9_mayWrite_8 (Nat.le_of_ble_eq_true rfl) rfl rfl (fun v8 H1 hp8 hs8 => ?_)
  obtain ⟨rfl, rfl⟩ := hp8
  refine g_if_ne (pc := 11) X 16 dX9_mayWrite_11 (by decide) (zbr _) (fun c11 => ?_) (fun c11 => ?_)
  · skip
    replace c11 := zb1 c11
    refine g_iload_n (pc := 16) (pl := 2) X dX9_mayWrite_16 rfl ?_
    refine g_iconst (pc := 17) X dX9_mayWrite_17 ?_
    refine g_bipush (pc := 18) X dX9_mayWrite_18 (by decide +kernel) ?_
    refine gJi (pc := 20) (n2 := 0) (k2 := 0) X cs_X9_mayWrite_41 (c_X9_in (zl K) D base c 0 25 (by omega) (by omega) (by omega)) rfl (by have := hO.lt; omega) trivial rfl ⟨Nat.le_of_ble_eq_true rfl, Nat.le_of_ble_eq_true rfl⟩ dX9_mayWrite_20 (Nat.le_of_ble_eq_true rfl) rfl rfl (fun v20 H1 hp20 hs20 => ?_)
    obtain ⟨rfl, rfl⟩ := hp20
    refine g_if_ne (pc := 23) X 31 dX9_mayWrite_23 (by decide) (zbr _) (fun c23 => ?_) (fun c23 => ?_)
    · skip
      replace c23 := zb1 c23
      refine g_aload_n (pc := 31) (pl := 0) X dX9_mayWrite_31 rfl ?_
      refine g_getf (pc := 32) X zF_X9_mayWrite_7 hO rfl dX9_mayWrite_32 ?_
      refine g_iconst (pc := 35) X dX9_mayWrite_35 ?_
      refine g_iaload (pc := 36) X hNw (by omega) (by omega) (by omega) dX9_mayWrite_36 ?_
      refine g_bipush (pc := 37) X dX9_mayWrite_37 (by decide +kernel) ?_
      refine g_icmp_ne (pc := 39) X 47 dX9_mayWrite_39 (by decide) (by omega) (by omega) (fun c39 => ?_) (fun c39 => ?_)
      · skip
        refine g_iconst (pc := 47) X dX9_mayWrite_47 ?_
        refine g_iret (pc := 48) X R hH dX9_mayWrite_48 ?_
        refine ⟨rfl, ?_⟩
        (repeat' split) <;> first | rfl | (exfalso; omega) | omega
      · skip
        refine g_bipush (pc := 42) X dX9_mayWrite_42 (by decide +kernel) ?_
        refine g_goto (pc := 44) X 48 dX9_mayWrite_44 (by decide) ?_
        refine g_iret (pc := 48) X R hH dX9_mayWrite_48 ?_
        refine ⟨rfl, ?_⟩
        (repeat' split) <;> first | rfl | (exfalso; omega) | omega
    · skip
      replace c23 := zb0 c23
      refine g_bipush (pc := 26) X dX9_mayWrite_26 (by decide +kernel) ?_
      refine g_goto (pc := 28) X 48 dX9_mayWrite_28 (by decide) ?_
      refine g_iret (pc := 48) X R hH dX9_mayWrite_48 ?_
      refine ⟨rfl, ?_⟩
      (repeat' split) <;> first | rfl | (exfalso; omega) | omega
  · skip
    replace c11 := zb0 c11
    refine g_iconst (pc := 14) X dX9_mayWrite_14 ?_
    refine g_iret (pc := 15) X R hH dX9_mayWrite_15 ?_
    refine ⟨rfl, ?_⟩
    (repeat' split) <;> first | rfl | (exfalso; omega) | omega

abbrev rm_X9_maySpan : Room := { frames := 2, cells := 0, slots := 0, locals := 43 }
theorem cs_X9_maySpan_101 : zCV RX9 wsX9_maySpan 101 9 yX9_isPlace wsX9_isPlace cX9_isPlace 2 (some .boolean) rm_X9_maySpan rm_X9_isPlace 1 := ⟨_, _, gX9_maySpan_X9_isPlace, rfl, ⟨by decide +kernel, by decide +kernel, by decide +kernel⟩, ⟨Nat.le_of_ble_eq_true rfl, Nat.le_of_ble_eq_true rfl⟩, rfl, rfl⟩
set_option maxRecDepth 100000 in
theorem c_X9_maySpan (l : Launch) (D : zD) (base : Nat) (y : Nat) (kp pd at' od fi la pc : Int) (f : Int → Int) (a b : Int) (hq : base ≤ y) (hI : PInv f) (ha : rg a) (hb : rg b) : Ct l yX9_maySpan wsX9_maySpan rm_X9_maySpan D base [.ref y, .int (J a), .int (J b)] (fun H => MoO D y kp pd at' od fi la pc H ∧ NwAt D y f H) (PI (fun H v H1 => H = H1 ∧ perr f a b = v)) := by
  refine Ct.of (own := RX9) (cc := cX9_maySpan) (maxL := 3) (by decide +kernel) rfl (Nat.le_of_ble_eq_true rfl) rfl ?_
  intro K H X R hH hnm hP
  show G K 0 0 H 0 [(0, .ref y), (1, .int (J a)), (2, .int (J b))] []
  obtain ⟨hO, hNw⟩ := hP
  have hnum := hI.nums
  refine g_aload_n (pc := 0) (pl := 0) X dX9_maySpan_0 rfl ?_
  refine g_iload_n (pc := 1) (pl := 1) X dX9_maySpan_1 rfl ?_
  refine gVi (pc := 2) (n2 := 0) (k2 := 0) X cs_X9_maySpan_101 (c_X9_isPlace (zl K) D base y kp pd at' od fi la pc f a hq hI (by omega)) rfl hO (by omega) ⟨hO, hNw⟩ rfl ⟨Nat.le_of_ble_eq_true rfl, Nat.le_of_ble_eq_true rfl⟩ dX9_maySpan_2 (Nat.le_of_ble_eq_true rfl) rfl rfl (fun v2 H1 hp2 hs2 => ?_)
  obtain ⟨rfl, rfl⟩ := hp2
  refine g_if_eq (pc := 5) X 16 dX9_maySpan_5 (by decide) (zbr _) (fun c5 => ?_) (fun c5 => ?_)
  · skip
    replace c5 := zb0 c5
    refine g_iconst (pc := 16) X dX9_maySpan_16 ?_
    refine g_goto (pc := 17) X 31 dX9_maySpan_17 (by decide) ?_
    refine g_iret (pc := 31) X R hH dX9_maySpan_31 ?_
    refine ⟨rfl, ?_⟩
    unfold perr
    (repeat' split) <;> first | rfl | (exfalso; omega) | omega
  · skip
    replace c5 := zb1 c5
    refine g_aload_n (pc := 8) (pl := 0) X dX9_maySpan_8 rfl ?_
    refine g_iload_n (pc := 9) (pl := 2) X dX9_maySpan_9 rfl ?_
    refine gVi (pc := 10) (n2 := 0) (k2 := 0) X cs_X9_maySpan_101 (c_X9_isPlace (zl K) D base y kp pd at' od fi la pc f b hq hI (by omega)) rfl hO (by omega) ⟨hO, hNw⟩ rfl ⟨Nat.le_of_ble_eq_true rfl, Nat.le_of_ble_eq_true rfl⟩ dX9_maySpan_10 (Nat.le_of_ble_eq_true rfl) rfl rfl (fun v10 H1 hp10 hs10 => ?_)
    obtain ⟨rfl, rfl⟩ := hp10
    refine g_if_ne (pc := 13) X 20 dX9_maySpan_13 (by decide) (zbr _) (fun c13 => ?_) (fun c13 => ?_)
    · skip
      replace c13 := zb1 c13
      refine g_iload_n (pc := 20) (pl := 2) X dX9_maySpan_20 rfl ?_
      refine g_iload_n (pc := 21) (pl := 1) X dX9_maySpan_21 rfl ?_
      refine g_icmp_ge (pc := 22) X 30 dX9_maySpan_22 (by decide) (by omega) (by omega) (fun c22 => ?_) (fun c22 => ?_)
      · skip
        refine g_iconst (pc := 30) X dX9_maySpan_30 ?_
        refine g_iret (pc := 31) X R hH dX9_maySpan_31 ?_
        refine ⟨rfl, ?_⟩
        unfold perr
        (repeat' split) <;> first | rfl | (exfalso; omega) | omega
      · skip
        refine g_bipush (pc := 25) X dX9_maySpan_25 (by decide +kernel) ?_
        refine g_goto (pc := 27) X 31 dX9_maySpan_27 (by decide) ?_
        refine g_iret (pc := 31) X R hH dX9_maySpan_31 ?_
        refine ⟨rfl, ?_⟩
        unfold perr
        (repeat' split) <;> first | rfl | (exfalso; omega) | omega
    · skip
      replace c13 := zb0 c13
      refine g_iconst (pc := 16) X dX9_maySpan_16 ?_
      refine g_goto (pc := 17) X 31 dX9_maySpan_17 (by decide) ?_
      refine g_iret (pc := 31) X R hH dX9_maySpan_31 ?_
      refine ⟨rfl, ?_⟩
      unfold perr
      (repeat' split) <;> first | rfl | (exfalso; omega) | omega

abbrev rm_X9_mayMove : Room := { frames := 3, cells := 0, slots := 0, locals := 65 }
theorem cs_X9_mayMove_112 : zCV RX9 wsX9_mayMove 112 9 yX9_maySpan wsX9_maySpan cX9_maySpan 3 (some .int) rm_X9_mayMove rm_X9_maySpan 2 := ⟨_, _, gX9_mayMove_X9_maySpan, rfl, ⟨by decide +kernel, by decide +kernel, by decide +kernel⟩, ⟨Nat.le_of_ble_eq_true rfl, Nat.le_of_ble_eq_true rfl⟩, rfl, rfl⟩
theorem zF_X9_mayMove_7 : zF RX9 wsX9_mayMove 9 0 7 := ⟨RX9, TX9, 17, rfl, by decide +kernel, by decide, by decide +kernel⟩
theorem cs_X9_mayMove_41 : zCJ RX9 wsX9_mayMove 41 yX9_in wsX9_in cX9_in 3 (some .boolean) rm_X9_mayMove rm_X9_in 3 := ⟨_, gX9_mayMove_X9_in, rfl, ⟨by decide +kernel, by decide +kernel, by decide +kernel⟩, ⟨Nat.le_of_ble_eq_true rfl, Nat.le_of_ble_eq_true rfl⟩⟩
set_option maxRecDepth 100000 in
theorem c_X9_mayMove (l : Launch) (D : zD) (base : Nat) (y : Nat) (kp pd at' od fi la pc : Int) (f : Int → Int) (a b p : Int) (hq : base ≤ y) (hI : PInv f) (ha : rg a) (hb : rg b) (hp : rg p) : Ct l yX9_mayMove wsX9_mayMove rm_X9_mayMove D base [.ref y, .int (J a), .int (J b), .int (J p)] (fun H => MoO D y kp pd at' od fi la pc H ∧ NwAt D y f H) (PI (fun H v H1 => H = H1 ∧ mverr f a b p = v)) := by
  refine Ct.of (own := RX9) (cc := cX9_mayMove) (maxL := 5) (by decide +kernel) rfl (Nat.le_of_ble_eq_true rfl) rfl ?_
  intro K H X R hH hnm hP
  show G K 0 0 H 0 [(0, .ref y), (1, .int (J a)), (2, .int (J b)), (3, .int (J p))] []
  obtain ⟨hO, hNw⟩ := hP
  have hnum := hI.nums
  refine g_aload_n (pc := 0) (pl := 0) X dX9_mayMove_0 rfl ?_
  refine g_iload_n (pc := 1) (pl := 1) X dX9_mayMove_1 rfl ?_
  refine g_iload_n (pc := 2) (pl := 2) X dX9_mayMove_2 rfl ?_
  refine gVi (pc := 3) (n2 := 0) (k2 := 0) X cs_X9_mayMove_112 (c_X9_maySpan (zl K) D base y kp pd at' od fi la pc f a b hq hI ha hb) rfl hO (by omega) ⟨hO, hNw⟩ rfl ⟨Nat.le_of_ble_eq_true rfl, Nat.le_of_ble_eq_true rfl⟩ dX9_mayMove_3 (Nat.le_of_ble_eq_true rfl) rfl rfl (fun v3 H1 hp3 hs3 => ?_)
  obtain ⟨rfl, rfl⟩ := hp3
  have hpe := perr_bd f a b
  refine g_istore (pc := 6) (lv' := [(4, _), (0, _), (1, _), (2, _), (3, _)]) X dX9_mayMove_6 (by decide) rfl ?_
  refine g_iload (pc := 8) (pl := 0) X dX9_mayMove_8 rfl ?_
  refine g_if_eq (pc := 10) X 18 dX9_mayMove_10 (by decide) (by omega) (fun c10 => ?_) (fun c10 => ?_)
  · skip
    have hab := perr_ok (g := f) (a := a) (b := b) (by omega)
    refine g_iload_n (pc := 18) (pl := 4) X dX9_mayMove_18 rfl ?_
    refine g_iconst (pc := 19) X dX9_mayMove_19 ?_
    refine g_aload_n (pc := 20) (pl := 1) X dX9_mayMove_20 rfl ?_
    refine g_getf (pc := 21) X zF_X9_mayMove_7 hO rfl dX9_mayMove_21 ?_
    refine g_iconst (pc := 24) X dX9_mayMove_24 ?_
    refine g_iaload (pc := 25) X hNw (by omega) (by omega) (by omega) dX9_mayMove_25 ?_
    refine g_iload_n (pc := 26) (pl := 3) X dX9_mayMove_26 rfl ?_
    refine g_iload_n (pc := 27) (pl := 2) X dX9_mayMove_27 rfl ?_
    refine g_isub (pc := 28) X dX9_mayMove_28 ?_
    refine g_iconst (pc := 29) X dX9_mayMove_29 ?_
    refine g_iadd (pc := 30) X dX9_mayMove_30 ?_
    refine g_isub (pc := 31) X dX9_mayMove_31 ?_
    refine gJi (pc := 32) (n2 := 0) (k2 := 0) X cs_X9_mayMove_41 (c_X9_in (zl K) D base p 0 (f 0 - (b - a + 1)) (by omega) (by omega) (by omega)) rfl (by have := hO.lt; omega) trivial rfl ⟨Nat.le_of_ble_eq_true rfl, Nat.le_of_ble_eq_true rfl⟩ dX9_mayMove_32 (Nat.le_of_ble_eq_true rfl) rfl rfl (fun v32 H1 hp32 hs32 => ?_)
    obtain ⟨rfl, rfl⟩ := hp32
    refine g_if_eq (pc := 35) X 42 dX9_mayMove_35 (by decide) (zbr _) (fun c35 => ?_) (fun c35 => ?_)
    · skip
      replace c35 := zb0 c35
      refine g_bipush (pc := 42) X dX9_mayMove_42 (by decide +kernel) ?_
      refine g_iret (pc := 44) X R hH dX9_mayMove_44 ?_
      refine ⟨rfl, ?_⟩
      unfold mverr
      (repeat' split) <;> first | rfl | (exfalso; omega) | omega
    · skip
      replace c35 := zb1 c35
      refine g_iconst (pc := 38) X dX9_mayMove_38 ?_
      refine g_goto (pc := 39) X 44 dX9_mayMove_39 (by decide) ?_
      refine g_iret (pc := 44) X R hH dX9_mayMove_44 ?_
      refine ⟨rfl, ?_⟩
      unfold mverr
      (repeat' split) <;> first | rfl | (exfalso; omega) | omega
  · skip
    refine g_iload (pc := 13) (pl := 0) X dX9_mayMove_13 rfl ?_
    refine g_goto (pc := 15) X 44 dX9_mayMove_15 (by decide) ?_
    refine g_iret (pc := 44) X R hH dX9_mayMove_44 ?_
    refine ⟨rfl, ?_⟩
    unfold mverr
    (repeat' split) <;> first | rfl | (exfalso; omega) | omega

abbrev rm_X9_mayNote : Room := { frames := 3, cells := 0, slots := 0, locals := 65 }
theorem cs_X9_mayNote_112 : zCV RX9 wsX9_mayNote 112 9 yX9_maySpan wsX9_maySpan cX9_maySpan 3 (some .int) rm_X9_mayNote rm_X9_maySpan 2 := ⟨_, _, gX9_mayNote_X9_maySpan, rfl, ⟨by decide +kernel, by decide +kernel, by decide +kernel⟩, ⟨Nat.le_of_ble_eq_true rfl, Nat.le_of_ble_eq_true rfl⟩, rfl, rfl⟩
theorem zF_X9_mayNote_7 : zF RX9 wsX9_mayNote 9 0 7 := ⟨RX9, TX9, 17, rfl, by decide +kernel, by decide, by decide +kernel⟩
set_option maxRecDepth 100000 in
theorem c_X9_mayNote (l : Launch) (D : zD) (base : Nat) (y : Nat) (kp pd at' od fi la pc : Int) (f : Int → Int) (a b : Int) (hq : base ≤ y) (hI : PInv f) (ha : rg a) (hb : rg b) : Ct l yX9_mayNote wsX9_mayNote rm_X9_mayNote D base [.ref y, .int (J a), .int (J b)] (fun H => MoO D y kp pd at' od fi la pc H ∧ NwAt D y f H) (PI (fun H v H1 => H = H1 ∧ (if perr f a b < 0 then perr f a b else if 16 ≤ f 1 then -4 else 0) = v)) := by
  refine Ct.of (own := RX9) (cc := cX9_mayNote) (maxL := 4) (by decide +kernel) rfl (Nat.le_of_ble_eq_true rfl) rfl ?_
  intro K H X R hH hnm hP
  show G K 0 0 H 0 [(0, .ref y), (1, .int (J a)), (2, .int (J b))] []
  obtain ⟨hO, hNw⟩ := hP
  have hnum := hI.nums
  refine g_aload_n (pc := 0) (pl := 0) X dX9_mayNote_0 rfl ?_
  refine g_iload_n (pc := 1) (pl := 1) X dX9_mayNote_1 rfl ?_
  refine g_iload_n (pc := 2) (pl := 2) X dX9_mayNote_2 rfl ?_
  refine gVi (pc := 3) (n2 := 0) (k2 := 0) X cs_X9_mayNote_112 (c_X9_maySpan (zl K) D base y kp pd at' od fi la pc f a b hq hI ha hb) rfl hO (by omega) ⟨hO, hNw⟩ rfl ⟨Nat.le_of_ble_eq_true rfl, Nat.le_of_ble_eq_true rfl⟩ dX9_mayNote_3 (Nat.le_of_ble_eq_true rfl) rfl rfl (fun v3 H1 hp3 hs3 => ?_)
  obtain ⟨rfl, rfl⟩ := hp3
  have hpe := perr_bd f a b
  refine g_istore_n (pc := 6) (lv' := [(3, _), (0, _), (1, _), (2, _)]) X dX9_mayNote_6 (by decide) rfl ?_
  refine g_iload_n (pc := 7) (pl := 0) X dX9_mayNote_7 rfl ?_
  refine g_if_eq (pc := 8) X 15 dX9_mayNote_8 (by decide) (by omega) (fun c8 => ?_) (fun c8 => ?_)
  · skip
    refine g_aload_n (pc := 15) (pl := 1) X dX9_mayNote_15 rfl ?_
    refine g_getf (pc := 16) X zF_X9_mayNote_7 hO rfl dX9_mayNote_16 ?_
    refine g_iconst (pc := 19) X dX9_mayNote_19 ?_
    refine g_iaload (pc := 20) X hNw (by omega) (by omega) (by omega) dX9_mayNote_20 ?_
    refine g_bipush (pc := 21) X dX9_mayNote_21 (by decide +kernel) ?_
    refine g_icmp_ne (pc := 23) X 31 dX9_mayNote_23 (by decide) (by omega) (by omega) (fun c23 => ?_) (fun c23 => ?_)
    · skip
      refine g_iconst (pc := 31) X dX9_mayNote_31 ?_
      refine g_iret (pc := 32) X R hH dX9_mayNote_32 ?_
      refine ⟨rfl, ?_⟩
      (repeat' split) <;> first | rfl | (exfalso; omega) | omega
    · skip
      refine g_bipush (pc := 26) X dX9_mayNote_26 (by decide +kernel) ?_
      refine g_goto (pc := 28) X 32 dX9_mayNote_28 (by decide) ?_
      refine g_iret (pc := 32) X R hH dX9_mayNote_32 ?_
      refine ⟨rfl, ?_⟩
      (repeat' split) <;> first | rfl | (exfalso; omega) | omega
  · skip
    refine g_iload_n (pc := 11) (pl := 0) X dX9_mayNote_11 rfl ?_
    refine g_goto (pc := 12) X 32 dX9_mayNote_12 (by decide) ?_
    refine g_iret (pc := 32) X R hH dX9_mayNote_32 ?_
    refine ⟨rfl, ?_⟩
    (repeat' split) <;> first | rfl | (exfalso; omega) | omega

abbrev rm_X9_mayReply : Room := { frames := 2, cells := 0, slots := 0, locals := 43 }
theorem cs_X9_mayReply_140 : zCV RX9 wsX9_mayReply 140 9 yX9_isNote wsX9_isNote cX9_isNote 2 (some .boolean) rm_X9_mayReply rm_X9_isNote 1 := ⟨_, _, gX9_mayReply_X9_isNote, rfl, ⟨by decide +kernel, by decide +kernel, by decide +kernel⟩, ⟨Nat.le_of_ble_eq_true rfl, Nat.le_of_ble_eq_true rfl⟩, rfl, rfl⟩
theorem zF_X9_mayReply_7 : zF RX9 wsX9_mayReply 9 0 7 := ⟨RX9, TX9, 17, rfl, by decide +kernel, by decide, by decide +kernel⟩
set_option maxRecDepth 100000 in
theorem c_X9_mayReply (l : Launch) (D : zD) (base : Nat) (y : Nat) (kp pd at' od fi la pc : Int) (f : Int → Int) (i : Int) (hq : base ≤ y) (hI : PInv f) (hi : rg i) : Ct l yX9_mayReply wsX9_mayReply rm_X9_mayReply D base [.ref y, .int (J i)] (fun H => MoO D y kp pd at' od fi la pc H ∧ NwAt D y f H) (PI (fun H v H1 => H = H1 ∧ (if ¬ isN f i then -1 else if 16 ≤ f 1 then -4 else 0) = v)) := by
  refine Ct.of (own := RX9) (cc := cX9_mayReply) (maxL := 2) (by decide +kernel) rfl (Nat.le_of_ble_eq_true rfl) rfl ?_
  intro K H X R hH hnm hP
  show G K 0 0 H 0 [(0, .ref y), (1, .int (J i))] []
  obtain ⟨hO, hNw⟩ := hP
  have hnum := hI.nums
  refine g_aload_n (pc := 0) (pl := 0) X dX9_mayReply_0 rfl ?_
  refine g_iload_n (pc := 1) (pl := 1) X dX9_mayReply_1 rfl ?_
  refine gVi (pc := 2) (n2 := 0) (k2 := 0) X cs_X9_mayReply_140 (c_X9_isNote (zl K) D base y kp pd at' od fi la pc f i hq hI (by omega)) rfl hO (by omega) ⟨hO, hNw⟩ rfl ⟨Nat.le_of_ble_eq_true rfl, Nat.le_of_ble_eq_true rfl⟩ dX9_mayReply_2 (Nat.le_of_ble_eq_true rfl) rfl rfl (fun v2 H1 hp2 hs2 => ?_)
  obtain ⟨rfl, rfl⟩ := hp2
  refine g_if_ne (pc := 5) X 12 dX9_mayReply_5 (by decide) (zbr _) (fun c5 => ?_) (fun c5 => ?_)
  · skip
    replace c5 := zb1 c5
    refine g_aload_n (pc := 12) (pl := 0) X dX9_mayReply_12 rfl ?_
    refine g_getf (pc := 13) X zF_X9_mayReply_7 hO rfl dX9_mayReply_13 ?_
    refine g_iconst (pc := 16) X dX9_mayReply_16 ?_
    refine g_iaload (pc := 17) X hNw (by omega) (by omega) (by omega) dX9_mayReply_17 ?_
    refine g_bipush (pc := 18) X dX9_mayReply_18 (by decide +kernel) ?_
    refine g_icmp_ne (pc := 20) X 28 dX9_mayReply_20 (by decide) (by omega) (by omega) (fun c20 => ?_) (fun c20 => ?_)
    · skip
      refine g_iconst (pc := 28) X dX9_mayReply_28 ?_
      refine g_iret (pc := 29) X R hH dX9_mayReply_29 ?_
      refine ⟨rfl, ?_⟩
      (repeat' split) <;> first | rfl | (exfalso; omega) | omega
    · skip
      refine g_bipush (pc := 23) X dX9_mayReply_23 (by decide +kernel) ?_
      refine g_goto (pc := 25) X 29 dX9_mayReply_25 (by decide) ?_
      refine g_iret (pc := 29) X R hH dX9_mayReply_29 ?_
      refine ⟨rfl, ?_⟩
      (repeat' split) <;> first | rfl | (exfalso; omega) | omega
  · skip
    replace c5 := zb0 c5
    refine g_iconst (pc := 8) X dX9_mayReply_8 ?_
    refine g_goto (pc := 9) X 29 dX9_mayReply_9 (by decide) ?_
    refine g_iret (pc := 29) X R hH dX9_mayReply_29 ?_
    refine ⟨rfl, ?_⟩
    (repeat' split) <;> first | rfl | (exfalso; omega) | omega

abbrev rm_X9_letter : Room := { frames := 2, cells := 0, slots := 0, locals := 43 }
theorem cs_X9_letter_101 : zCV RX9 wsX9_letter 101 9 yX9_isPlace wsX9_isPlace cX9_isPlace 2 (some .boolean) rm_X9_letter rm_X9_isPlace 1 := ⟨_, _, gX9_letter_X9_isPlace, rfl, ⟨by decide +kernel, by decide +kernel, by decide +kernel⟩, ⟨Nat.le_of_ble_eq_true rfl, Nat.le_of_ble_eq_true rfl⟩, rfl, rfl⟩
theorem zF_X9_letter_7 : zF RX9 wsX9_letter 9 0 7 := ⟨RX9, TX9, 17, rfl, by decide +kernel, by decide, by decide +kernel⟩
set_option maxRecDepth 100000 in
theorem c_X9_letter (l : Launch) (D : zD) (base : Nat) (y : Nat) (kp pd at' od fi la pc : Int) (f : Int → Int) (p : Int) (hq : base ≤ y) (hI : PInv f) (hp : rg p) : Ct l yX9_letter wsX9_letter rm_X9_letter D base [.ref y, .int (J p)] (fun H => MoO D y kp pd at' od fi la pc H ∧ NwAt D y f H) (PI (fun H v H1 => H = H1 ∧ itm (f 0) (LT f) p = v)) := by
  refine Ct.of (own := RX9) (cc := cX9_letter) (maxL := 2) (by decide +kernel) rfl (Nat.le_of_ble_eq_true rfl) rfl ?_
  intro K H X R hH hnm hP
  show G K 0 0 H 0 [(0, .ref y), (1, .int (J p))] []
  obtain ⟨hO, hNw⟩ := hP
  have hnum := hI.nums
  refine g_aload_n (pc := 0) (pl := 0) X dX9_letter_0 rfl ?_
  refine g_iload_n (pc := 1) (pl := 1) X dX9_letter_1 rfl ?_
  refine gVi (pc := 2) (n2 := 0) (k2 := 0) X cs_X9_letter_101 (c_X9_isPlace (zl K) D base y kp pd at' od fi la pc f p hq hI (by omega)) rfl hO (by omega) ⟨hO, hNw⟩ rfl ⟨Nat.le_of_ble_eq_true rfl, Nat.le_of_ble_eq_true rfl⟩ dX9_letter_2 (Nat.le_of_ble_eq_true rfl) rfl rfl (fun v2 H1 hp2 hs2 => ?_)
  obtain ⟨rfl, rfl⟩ := hp2
  refine g_if_eq (pc := 5) X 19 dX9_letter_5 (by decide) (zbr _) (fun c5 => ?_) (fun c5 => ?_)
  · skip
    replace c5 := zb0 c5
    refine g_iconst (pc := 19) X dX9_letter_19 ?_
    refine g_iret (pc := 20) X R hH dX9_letter_20 ?_
    refine ⟨rfl, ?_⟩
    unfold itm
    first | exact if_pos c5 | exact if_neg c5
  · skip
    replace c5 := zb1 c5
    refine g_aload_n (pc := 8) (pl := 0) X dX9_letter_8 rfl ?_
    refine g_getf (pc := 9) X zF_X9_letter_7 hO rfl dX9_letter_9 ?_
    refine g_iconst (pc := 12) X dX9_letter_12 ?_
    refine g_iload_n (pc := 13) (pl := 1) X dX9_letter_13 rfl ?_
    refine g_iadd (pc := 14) X dX9_letter_14 ?_
    refine g_iaload (pc := 15) X hNw (by omega) (by omega) (by omega) dX9_letter_15 ?_
    refine g_goto (pc := 16) X 20 dX9_letter_16 (by decide) ?_
    refine g_iret (pc := 20) X R hH dX9_letter_20 ?_
    refine ⟨rfl, ?_⟩
    unfold itm
    first | exact if_pos c5 | exact if_neg c5

abbrev rm_X9_at : Room := { frames := 2, cells := 0, slots := 0, locals := 43 }
theorem cs_X9_at_101 : zCV RX9 wsX9_at 101 9 yX9_isPlace wsX9_isPlace cX9_isPlace 2 (some .boolean) rm_X9_at rm_X9_isPlace 1 := ⟨_, _, gX9_at_X9_isPlace, rfl, ⟨by decide +kernel, by decide +kernel, by decide +kernel⟩, ⟨Nat.le_of_ble_eq_true rfl, Nat.le_of_ble_eq_true rfl⟩, rfl, rfl⟩
theorem zF_X9_at_7 : zF RX9 wsX9_at 9 0 7 := ⟨RX9, TX9, 17, rfl, by decide +kernel, by decide, by decide +kernel⟩
set_option maxRecDepth 100000 in
theorem c_X9_at (l : Launch) (D : zD) (base : Nat) (y : Nat) (kp pd at' od fi la pc : Int) (f : Int → Int) (p : Int) (hq : base ≤ y) (hI : PInv f) (hp : rg p) : Ct l yX9_at wsX9_at rm_X9_at D base [.ref y, .int (J p)] (fun H => MoO D y kp pd at' od fi la pc H ∧ NwAt D y f H) (PI (fun H v H1 => H = H1 ∧ itm (f 0) (OW f) p = v)) := by
  refine Ct.of (own := RX9) (cc := cX9_at) (maxL := 2) (by decide +kernel) rfl (Nat.le_of_ble_eq_true rfl) rfl ?_
  intro K H X R hH hnm hP
  show G K 0 0 H 0 [(0, .ref y), (1, .int (J p))] []
  obtain ⟨hO, hNw⟩ := hP
  have hnum := hI.nums
  refine g_aload_n (pc := 0) (pl := 0) X dX9_at_0 rfl ?_
  refine g_iload_n (pc := 1) (pl := 1) X dX9_at_1 rfl ?_
  refine gVi (pc := 2) (n2 := 0) (k2 := 0) X cs_X9_at_101 (c_X9_isPlace (zl K) D base y kp pd at' od fi la pc f p hq hI (by omega)) rfl hO (by omega) ⟨hO, hNw⟩ rfl ⟨Nat.le_of_ble_eq_true rfl, Nat.le_of_ble_eq_true rfl⟩ dX9_at_2 (Nat.le_of_ble_eq_true rfl) rfl rfl (fun v2 H1 hp2 hs2 => ?_)
  obtain ⟨rfl, rfl⟩ := hp2
  refine g_if_eq (pc := 5) X 20 dX9_at_5 (by decide) (zbr _) (fun c5 => ?_) (fun c5 => ?_)
  · skip
    replace c5 := zb0 c5
    refine g_iconst (pc := 20) X dX9_at_20 ?_
    refine g_iret (pc := 21) X R hH dX9_at_21 ?_
    refine ⟨rfl, ?_⟩
    unfold itm
    first | exact if_pos c5 | exact if_neg c5
  · skip
    replace c5 := zb1 c5
    refine g_aload_n (pc := 8) (pl := 0) X dX9_at_8 rfl ?_
    refine g_getf (pc := 9) X zF_X9_at_7 hO rfl dX9_at_9 ?_
    refine g_bipush (pc := 12) X dX9_at_12 (by decide +kernel) ?_
    refine g_iload_n (pc := 14) (pl := 1) X dX9_at_14 rfl ?_
    refine g_iadd (pc := 15) X dX9_at_15 ?_
    refine g_iaload (pc := 16) X hNw (by omega) (by omega) (by omega) dX9_at_16 ?_
    refine g_goto (pc := 17) X 21 dX9_at_17 (by decide) ?_
    refine g_iret (pc := 21) X R hH dX9_at_21 ?_
    refine ⟨rfl, ?_⟩
    unfold itm
    first | exact if_pos c5 | exact if_neg c5

abbrev rm_X9_replyCount : Room := { frames := 2, cells := 0, slots := 0, locals := 43 }
theorem zF_X9_replyCount_7 : zF RX9 wsX9_replyCount 9 0 7 := ⟨RX9, TX9, 17, rfl, by decide +kernel, by decide, by decide +kernel⟩
theorem cs_X9_replyCount_64 : zCV RX9 wsX9_replyCount 64 9 yX9_isReply wsX9_isReply cX9_isReply 2 (some .boolean) rm_X9_replyCount rm_X9_isReply 1 := ⟨_, _, gX9_replyCount_X9_isReply, rfl, ⟨by decide +kernel, by decide +kernel, by decide +kernel⟩, ⟨Nat.le_of_ble_eq_true rfl, Nat.le_of_ble_eq_true rfl⟩, rfl, rfl⟩
set_option maxRecDepth 100000 in
theorem c_X9_replyCount (l : Launch) (D : zD) (base : Nat) (y : Nat) (kp pd at' od fi la pc : Int) (f : Int → Int) (hq : base ≤ y) (hI : PInv f) : Ct l yX9_replyCount wsX9_replyCount rm_X9_replyCount D base [.ref y] (fun H => MoO D y kp pd at' od fi la pc H ∧ NwAt D y f H) (PI (fun H v H1 => H = H1 ∧ cst f 2 = v)) := by
  refine Ct.of (own := RX9) (cc := cX9_replyCount) (maxL := 3) (by decide +kernel) rfl (Nat.le_of_ble_eq_true rfl) rfl ?_
  intro K H X R hH hnm hP
  show G K 0 0 H 0 [(0, .ref y)] []
  obtain ⟨hO, hNw⟩ := hP
  have hnum := hI.nums
  refine g_iconst (pc := 0) X dX9_replyCount_0 ?_
  refine g_istore_n (pc := 1) (lv' := [(1, _), (0, _)]) X dX9_replyCount_1 (by decide) rfl ?_
  refine g_iconst (pc := 2) X dX9_replyCount_2 ?_
  refine g_istore_n (pc := 3) (lv' := [(2, _), (1, _), (0, _)]) X dX9_replyCount_3 (by decide) rfl ?_
  have hL4 : ∀ (fu : Nat) (k : Nat) (ki c : Int), (f 1).toNat - k < fu → (ki = (k : Int)) → ((k : Int) ≤ f 1) → (c = cnt (fun n => decide (stt f n = 2)) k) → G K 0 0 H 4 [(0, .ref y), (1, .int (J c)), (2, .int (J ki))] [] := by
    intro fu
    induction fu with
    | zero => intro k ki c hm; exact absurd hm (Nat.not_lt_zero _)
    | succ fu ih4 =>
      intro k ki c hm he h1 hc
      subst he
      refine g_iload_n (pc := 4) (pl := 2) X dX9_replyCount_4 rfl ?_
      refine g_aload_n (pc := 5) (pl := 0) X dX9_replyCount_5 rfl ?_
      refine g_getf (pc := 6) X zF_X9_replyCount_7 hO rfl dX9_replyCount_6 ?_
      refine g_iconst (pc := 9) X dX9_replyCount_9 ?_
      refine g_iaload (pc := 10) X hNw (by omega) (by omega) (by omega) dX9_replyCount_10 ?_
      refine g_icmp_ge (pc := 11) X 36 dX9_replyCount_11 (by decide) (by omega) (by omega) (fun c11 => ?_) (fun c11 => ?_)
      · skip
        refine g_iload_n (pc := 36) (pl := 1) X dX9_replyCount_36 rfl ?_
        refine g_iret (pc := 37) X R hH dX9_replyCount_37 ?_
        have ek : (f 1).toNat = k := by omega
        exact ⟨rfl, by unfold cst; rw [ek]; exact hc.symm⟩
      · skip
        refine g_iload_n (pc := 14) (pl := 1) X dX9_replyCount_14 rfl ?_
        refine g_aload_n (pc := 15) (pl := 0) X dX9_replyCount_15 rfl ?_
        refine g_iload_n (pc := 16) (pl := 2) X dX9_replyCount_16 rfl ?_
        refine gVi (pc := 17) (n2 := 0) (k2 := 0) X cs_X9_replyCount_64 (c_X9_isReply (zl K) D base y kp pd at' od fi la pc f (k : Int) hq hI (by omega)) rfl hO (by omega) ⟨hO, hNw⟩ rfl ⟨Nat.le_of_ble_eq_true rfl, Nat.le_of_ble_eq_true rfl⟩ dX9_replyCount_17 (Nat.le_of_ble_eq_true rfl) rfl rfl (fun v17 H1 hp17 hs17 => ?_)
        obtain ⟨rfl, rfl⟩ := hp17
        refine g_if_eq (pc := 20) X 27 dX9_replyCount_20 (by decide) (zbr _) (fun c20 => ?_) (fun c20 => ?_)
        · skip
          replace c20 := zb0 c20
          refine g_iconst (pc := 27) X dX9_replyCount_27 ?_
          refine g_iadd (pc := 28) X dX9_replyCount_28 ?_
          refine g_istore_n (pc := 29) (lv' := [(1, _), (0, _), (2, _)]) X dX9_replyCount_29 (by decide) rfl ?_
          refine g_iinc (pc := 30) (pl := 2) (x := (k : Int)) (lv' := [(2, _), (1, _), (0, _)]) X dX9_replyCount_30 rfl (by decide) rfl ?_
          refine g_goto (pc := 33) X 4 dX9_replyCount_33 (by decide) ?_
          refine G.pick [2, 1, 0] (lv' := [(0, _), (1, _), (2, _)]) rfl ?_
          have q := cnt_no (P := fun n => decide (stt f n = 2)) (n := k) (fun z => by have z2 := of_decide_eq_true z; unfold stt at z2; rw [if_neg c20] at z2; split at z2 <;> omega)
          exact ih4 (k + 1) _ _ (by omega) (by omega) (by omega) (by omega)
        · skip
          replace c20 := zb1 c20
          refine g_iconst (pc := 23) X dX9_replyCount_23 ?_
          refine g_goto (pc := 24) X 28 dX9_replyCount_24 (by decide) ?_
          refine g_iadd (pc := 28) X dX9_replyCount_28 ?_
          refine g_istore_n (pc := 29) (lv' := [(1, _), (0, _), (2, _)]) X dX9_replyCount_29 (by decide) rfl ?_
          refine g_iinc (pc := 30) (pl := 2) (x := (k : Int)) (lv' := [(2, _), (1, _), (0, _)]) X dX9_replyCount_30 rfl (by decide) rfl ?_
          refine g_goto (pc := 33) X 4 dX9_replyCount_33 (by decide) ?_
          refine G.pick [2, 1, 0] (lv' := [(0, _), (1, _), (2, _)]) rfl ?_
          have q := cnt_yes (P := fun n => decide (stt f n = 2)) (n := k) (decide_eq_true (if_pos c20))
          exact ih4 (k + 1) _ _ (by omega) (by omega) (by omega) (by omega)
  refine G.pick [2, 1, 0] (lv' := [(0, _), (1, _), (2, _)]) rfl ?_
  exact hL4 _ 0 _ _ (Nat.lt_succ_self _) rfl (by omega) rfl

abbrev rm_X9_rootOf : Room := { frames := 2, cells := 0, slots := 0, locals := 43 }
theorem cs_X9_rootOf_64 : zCV RX9 wsX9_rootOf 64 9 yX9_isReply wsX9_isReply cX9_isReply 2 (some .boolean) rm_X9_rootOf rm_X9_isReply 1 := ⟨_, _, gX9_rootOf_X9_isReply, rfl, ⟨by decide +kernel, by decide +kernel, by decide +kernel⟩, ⟨Nat.le_of_ble_eq_true rfl, Nat.le_of_ble_eq_true rfl⟩, rfl, rfl⟩
theorem cs_X9_rootOf_45 : zCV RX9 wsX9_rootOf 45 9 yX9_of0 wsX9_of0 cX9_of0 3 (some .int) rm_X9_rootOf rm_X9_of0 2 := ⟨_, _, gX9_rootOf_X9_of0, rfl, ⟨by decide +kernel, by decide +kernel, by decide +kernel⟩, ⟨Nat.le_of_ble_eq_true rfl, Nat.le_of_ble_eq_true rfl⟩, rfl, rfl⟩
set_option maxRecDepth 100000 in
theorem c_X9_rootOf (l : Launch) (D : zD) (base : Nat) (y : Nat) (kp pd at' od fi la pc : Int) (f : Int → Int) (i b : Int) (hq : base ≤ y) (hI : PInv f) (hi : 0 ≤ i ∧ i < f 1) (hb : b = 0 ∨ b = 1) : Ct l yX9_rootOf wsX9_rootOf rm_X9_rootOf D base [.ref y, .int (J i), .int (J b)] (fun H => MoO D y kp pd at' od fi la pc H ∧ NwAt D y f H) (PI (fun H v H1 => H = H1 ∧ (if b = 0 then rot f i else dpt f i) = v)) := by
  refine Ct.of (own := RX9) (cc := cX9_rootOf) (maxL := 5) (by decide +kernel) rfl (Nat.le_of_ble_eq_true rfl) rfl ?_
  intro K H X R hH hnm hP
  show G K 0 0 H 0 [(0, .ref y), (1, .int (J i)), (2, .int (J b))] []
  obtain ⟨hO, hNw⟩ := hP
  have hnum := hI.nums
  obtain ⟨b1, b2, b3, b4, b5⟩ := dep_bd hI hi
  refine g_iload_n (pc := 0) (pl := 1) X dX9_rootOf_0 rfl ?_
  refine g_istore_n (pc := 1) (lv' := [(3, _), (0, _), (1, _), (2, _)]) X dX9_rootOf_1 (by decide) rfl ?_
  refine g_iconst (pc := 2) X dX9_rootOf_2 ?_
  refine g_istore (pc := 3) (lv' := [(4, _), (3, _), (0, _), (1, _), (2, _)]) X dX9_rootOf_3 (by decide) rfl ?_
  have hL5 : ∀ (fu : Nat) (d : Nat) (di o : Int), 16 - d < fu → (o = chn f d i ∧ di = (d : Int)) → (d ≤ dep f 16 i) → (0 ≤ o ∧ o ≤ i) → G K 0 0 H 5 [(0, .ref y), (1, .int (J i)), (2, .int (J b)), (3, .int (J o)), (4, .int (J di))] [] := by
    intro fu
    induction fu with
    | zero => intro d di o hm; exact absurd hm (Nat.not_lt_zero _)
    | succ fu ih5 =>
      intro d di o hm h1 h2 h4
      have htg := hI.tg h4.1 (by omega)
      refine g_aload_n (pc := 5) (pl := 0) X dX9_rootOf_5 rfl ?_
      refine g_iload_n (pc := 6) (pl := 3) X dX9_rootOf_6 rfl ?_
      refine gVi (pc := 7) (n2 := 0) (k2 := 0) X cs_X9_rootOf_64 (c_X9_isReply (zl K) D base y kp pd at' od fi la pc f o hq hI (by omega)) rfl hO (by omega) ⟨hO, hNw⟩ rfl ⟨Nat.le_of_ble_eq_true rfl, Nat.le_of_ble_eq_true rfl⟩ dX9_rootOf_7 (Nat.le_of_ble_eq_true rfl) rfl rfl (fun v7 H1 hp7 hs7 => ?_)
      obtain ⟨rfl, rfl⟩ := hp7
      refine g_if_eq (pc := 10) X 26 dX9_rootOf_10 (by decide) (zbr _) (fun c10 => ?_) (fun c10 => ?_)
      · skip
        replace c10 := zb0 c10
        refine g_iload_n (pc := 26) (pl := 2) X dX9_rootOf_26 rfl ?_
        refine g_if_eq (pc := 27) X 35 dX9_rootOf_27 (by decide) (by omega) (fun c27 => ?_) (fun c27 => ?_)
        · skip
          refine g_iload_n (pc := 35) (pl := 3) X dX9_rootOf_35 rfl ?_
          refine g_iret (pc := 36) X R hH dX9_rootOf_36 ?_
          refine ⟨rfl, ?_⟩
          have hd2 : d = dep f 16 i := by rcases Nat.lt_or_ge d (dep f 16 i) with z | z; exact absurd (by rw [← h1.1]; exact Decidable.not_not.mp c10) (dep_before f 16 i d z); omega
          first
          | (rw [if_pos (by omega)]; unfold rot; rw [h1.1, hd2])
          | (rw [if_neg (by omega)]; unfold dpt; omega)
        · skip
          refine g_iload (pc := 30) (pl := 4) X dX9_rootOf_30 rfl ?_
          refine g_goto (pc := 32) X 36 dX9_rootOf_32 (by decide) ?_
          refine g_iret (pc := 36) X R hH dX9_rootOf_36 ?_
          refine ⟨rfl, ?_⟩
          have hd2 : d = dep f 16 i := by rcases Nat.lt_or_ge d (dep f 16 i) with z | z; exact absurd (by rw [← h1.1]; exact Decidable.not_not.mp c10) (dep_before f 16 i d z); omega
          first
          | (rw [if_pos (by omega)]; unfold rot; rw [h1.1, hd2])
          | (rw [if_neg (by omega)]; unfold dpt; omega)
      · skip
        replace c10 := zb1 c10
        refine g_aload_n (pc := 13) (pl := 0) X dX9_rootOf_13 rfl ?_
        refine g_iload_n (pc := 14) (pl := 3) X dX9_rootOf_14 rfl ?_
        refine g_iconst (pc := 15) X dX9_rootOf_15 ?_
        refine gVi (pc := 16) (n2 := 0) (k2 := 0) X cs_X9_rootOf_45 (c_X9_of0 (zl K) D base y kp pd at' od fi la pc f o 0 hq (by omega) (by omega)) rfl hO (by omega) ⟨hO, hNw⟩ rfl ⟨Nat.le_of_ble_eq_true rfl, Nat.le_of_ble_eq_true rfl⟩ dX9_rootOf_16 (Nat.le_of_ble_eq_true rfl) rfl rfl (fun v16 H1 hp16 hs16 => ?_)
        obtain ⟨rfl, rfl⟩ := hp16
        rw [show f (125 + 80 * o + 0) = tgt f o by rw [Int.add_zero]]
        refine g_istore_n (pc := 19) (lv' := [(3, _), (0, _), (1, _), (2, _), (4, _)]) X dX9_rootOf_19 (by decide) rfl ?_
        refine g_iinc (pc := 20) (pl := 4) (x := di) (lv' := [(4, _), (3, _), (0, _), (1, _), (2, _)]) X dX9_rootOf_20 rfl (by decide) rfl ?_
        refine g_goto (pc := 23) X 5 dX9_rootOf_23 (by decide) ?_
        refine G.pick [2, 3, 4, 1, 0] (lv' := [(0, _), (1, _), (2, _), (3, _), (4, _)]) rfl ?_
        have hd2 : d < dep f 16 i := by rcases Nat.lt_or_ge d (dep f 16 i) with z | z; exact z; exact absurd (by rw [h1.1, show d = dep f 16 i by omega]; exact b5) c10
        exact ih5 (d + 1) _ _ (by omega) ⟨by rw [h1.1]; exact (chn_succ f d i).symm, by omega⟩ (by omega) (by omega)
  refine G.pick [2, 3, 4, 1, 0] (lv' := [(0, _), (1, _), (2, _), (3, _), (4, _)]) rfl ?_
  exact hL5 _ 0 _ i (Nat.lt_succ_self _) ⟨rfl, rfl⟩ (Nat.zero_le _) ⟨hi.1, Int.le_refl i⟩

abbrev rm_X9_isBelow : Room := { frames := 2, cells := 0, slots := 0, locals := 43 }
theorem cs_X9_isBelow_64 : zCV RX9 wsX9_isBelow 64 9 yX9_isReply wsX9_isReply cX9_isReply 2 (some .boolean) rm_X9_isBelow rm_X9_isReply 1 := ⟨_, _, gX9_isBelow_X9_isReply, rfl, ⟨by decide +kernel, by decide +kernel, by decide +kernel⟩, ⟨Nat.le_of_ble_eq_true rfl, Nat.le_of_ble_eq_true rfl⟩, rfl, rfl⟩
theorem cs_X9_isBelow_45 : zCV RX9 wsX9_isBelow 45 9 yX9_of0 wsX9_of0 cX9_of0 3 (some .int) rm_X9_isBelow rm_X9_of0 2 := ⟨_, _, gX9_isBelow_X9_of0, rfl, ⟨by decide +kernel, by decide +kernel, by decide +kernel⟩, ⟨Nat.le_of_ble_eq_true rfl, Nat.le_of_ble_eq_true rfl⟩, rfl, rfl⟩
set_option maxRecDepth 100000 in
theorem c_X9_isBelow (l : Launch) (D : zD) (base : Nat) (y : Nat) (kp pd at' od fi la pc : Int) (f : Int → Int) (i k : Int) (hq : base ≤ y) (hI : PInv f) (hi : 0 ≤ i ∧ i < f 1) (hk : 0 ≤ k ∧ k < f 1) : Ct l yX9_isBelow wsX9_isBelow rm_X9_isBelow D base [.ref y, .int (J i), .int (J k)] (fun H => MoO D y kp pd at' od fi la pc H ∧ NwAt D y f H) (PI (fun H v H1 => H = H1 ∧ (if isin (famS f k) i then 1 else 0) = v)) := by
  refine Ct.of (own := RX9) (cc := cX9_isBelow) (maxL := 4) (by decide +kernel) rfl (Nat.le_of_ble_eq_true rfl) rfl ?_
  intro K H X R hH hnm hP
  show G K 0 0 H 0 [(0, .ref y), (1, .int (J i)), (2, .int (J k))] []
  obtain ⟨hO, hNw⟩ := hP
  have hnum := hI.nums
  refine g_iload_n (pc := 0) (pl := 1) X dX9_isBelow_0 rfl ?_
  refine g_istore_n (pc := 1) (lv' := [(3, _), (0, _), (1, _), (2, _)]) X dX9_isBelow_1 (by decide) rfl ?_
  have hL2 : ∀ (fu : Nat) (o : Int), o.toNat < fu → (0 ≤ o ∧ o < f 1) → (isin (famS f k) i ↔ isin (famS f k) o) → G K 0 0 H 2 [(0, .ref y), (1, .int (J i)), (2, .int (J k)), (3, .int (J o))] [] := by
    intro fu
    induction fu with
    | zero => intro o hm; exact absurd hm (Nat.not_lt_zero _)
    | succ fu ih2 =>
      intro o hm h4 hF
      have htg := hI.tg h4.1 h4.2
      refine g_iload_n (pc := 2) (pl := 3) X dX9_isBelow_2 rfl ?_
      refine g_iload_n (pc := 3) (pl := 2) X dX9_isBelow_3 rfl ?_
      refine g_icmp_eq (pc := 4) X 25 dX9_isBelow_4 (by decide) (by omega) (by omega) (fun c4 => ?_) (fun c4 => ?_)
      · skip
        refine g_iload_n (pc := 25) (pl := 3) X dX9_isBelow_25 rfl ?_
        refine g_iload_n (pc := 26) (pl := 2) X dX9_isBelow_26 rfl ?_
        refine g_icmp_ne (pc := 27) X 34 dX9_isBelow_27 (by decide) (by omega) (by omega) (fun c27 => ?_) (fun c27 => ?_)
        · skip
          refine g_iconst (pc := 34) X dX9_isBelow_34 ?_
          refine g_zret (pc := 35) X R hH (by first | exact Or.inl rfl | exact Or.inr rfl | omega) dX9_isBelow_35 ?_
          refine ⟨rfl, ?_⟩
          by_cases z : o = k
          · first | (exfalso; omega) | exact if_pos (hF.mpr (by rw [z]; exact fam_self (by omega) _))
          · first | (exfalso; omega) | exact if_neg (fun q => by have q2 := (fam_iff hI hk h4 z).mp (hF.mp q); have := q2.1; omega)
        · skip
          refine g_iconst (pc := 30) X dX9_isBelow_30 ?_
          refine g_goto (pc := 31) X 35 dX9_isBelow_31 (by decide) ?_
          refine g_zret (pc := 35) X R hH (by first | exact Or.inl rfl | exact Or.inr rfl | omega) dX9_isBelow_35 ?_
          refine ⟨rfl, ?_⟩
          by_cases z : o = k
          · first | (exfalso; omega) | exact if_pos (hF.mpr (by rw [z]; exact fam_self (by omega) _))
          · first | (exfalso; omega) | exact if_neg (fun q => by have q2 := (fam_iff hI hk h4 z).mp (hF.mp q); have := q2.1; omega)
      · skip
        refine g_aload_n (pc := 7) (pl := 0) X dX9_isBelow_7 rfl ?_
        refine g_iload_n (pc := 8) (pl := 3) X dX9_isBelow_8 rfl ?_
        refine gVi (pc := 9) (n2 := 0) (k2 := 0) X cs_X9_isBelow_64 (c_X9_isReply (zl K) D base y kp pd at' od fi la pc f o hq hI (by omega)) rfl hO (by omega) ⟨hO, hNw⟩ rfl ⟨Nat.le_of_ble_eq_true rfl, Nat.le_of_ble_eq_true rfl⟩ dX9_isBelow_9 (Nat.le_of_ble_eq_true rfl) rfl rfl (fun v9 H1 hp9 hs9 => ?_)
        obtain ⟨rfl, rfl⟩ := hp9
        refine g_if_eq (pc := 12) X 25 dX9_isBelow_12 (by decide) (zbr _) (fun c12 => ?_) (fun c12 => ?_)
        · skip
          replace c12 := zb0 c12
          refine g_iload_n (pc := 25) (pl := 3) X dX9_isBelow_25 rfl ?_
          refine g_iload_n (pc := 26) (pl := 2) X dX9_isBelow_26 rfl ?_
          refine g_icmp_ne (pc := 27) X 34 dX9_isBelow_27 (by decide) (by omega) (by omega) (fun c27 => ?_) (fun c27 => ?_)
          · skip
            refine g_iconst (pc := 34) X dX9_isBelow_34 ?_
            refine g_zret (pc := 35) X R hH (by first | exact Or.inl rfl | exact Or.inr rfl | omega) dX9_isBelow_35 ?_
            refine ⟨rfl, ?_⟩
            by_cases z : o = k
            · first | (exfalso; omega) | exact if_pos (hF.mpr (by rw [z]; exact fam_self (by omega) _))
            · first | (exfalso; omega) | exact if_neg (fun q => by have q2 := (fam_iff hI hk h4 z).mp (hF.mp q); have := q2.1; omega)
          · skip
            refine g_iconst (pc := 30) X dX9_isBelow_30 ?_
            refine g_goto (pc := 31) X 35 dX9_isBelow_31 (by decide) ?_
            refine g_zret (pc := 35) X R hH (by first | exact Or.inl rfl | exact Or.inr rfl | omega) dX9_isBelow_35 ?_
            refine ⟨rfl, ?_⟩
            by_cases z : o = k
            · first | (exfalso; omega) | exact if_pos (hF.mpr (by rw [z]; exact fam_self (by omega) _))
            · first | (exfalso; omega) | exact if_neg (fun q => by have q2 := (fam_iff hI hk h4 z).mp (hF.mp q); have := q2.1; omega)
        · skip
          replace c12 := zb1 c12
          refine g_aload_n (pc := 15) (pl := 0) X dX9_isBelow_15 rfl ?_
          refine g_iload_n (pc := 16) (pl := 3) X dX9_isBelow_16 rfl ?_
          refine g_iconst (pc := 17) X dX9_isBelow_17 ?_
          refine gVi (pc := 18) (n2 := 0) (k2 := 0) X cs_X9_isBelow_45 (c_X9_of0 (zl K) D base y kp pd at' od fi la pc f o 0 hq (by omega) (by omega)) rfl hO (by omega) ⟨hO, hNw⟩ rfl ⟨Nat.le_of_ble_eq_true rfl, Nat.le_of_ble_eq_true rfl⟩ dX9_isBelow_18 (Nat.le_of_ble_eq_true rfl) rfl rfl (fun v18 H1 hp18 hs18 => ?_)
          obtain ⟨rfl, rfl⟩ := hp18
          rw [show f (125 + 80 * o + 0) = tgt f o by rw [Int.add_zero]]
          refine g_istore_n (pc := 21) (lv' := [(3, _), (0, _), (1, _), (2, _)]) X dX9_isBelow_21 (by decide) rfl ?_
          refine g_goto (pc := 22) X 2 dX9_isBelow_22 (by decide) ?_
          refine G.pick [1, 2, 3, 0] (lv' := [(0, _), (1, _), (2, _), (3, _)]) rfl ?_
          exact ih2 (tgt f o) (by omega) (by omega) (hF.trans (fam_iff hI hk h4 c4))
  refine G.pick [1, 2, 3, 0] (lv' := [(0, _), (1, _), (2, _), (3, _)]) rfl ?_
  exact hL2 _ i (Nat.lt_succ_self _) hi Iff.rfl

abbrev rm_X9_below : Room := { frames := 3, cells := 0, slots := 0, locals := 66 }
theorem zF_X9_below_7 : zF RX9 wsX9_below 9 0 7 := ⟨RX9, TX9, 17, rfl, by decide +kernel, by decide, by decide +kernel⟩
theorem cs_X9_below_88 : zCV RX9 wsX9_below 88 9 yX9_isBelow wsX9_isBelow cX9_isBelow 4 (some .boolean) rm_X9_below rm_X9_isBelow 2 := ⟨_, _, gX9_below_X9_isBelow, rfl, ⟨by decide +kernel, by decide +kernel, by decide +kernel⟩, ⟨Nat.le_of_ble_eq_true rfl, Nat.le_of_ble_eq_true rfl⟩, rfl, rfl⟩
set_option maxRecDepth 100000 in
theorem c_X9_below (l : Launch) (D : zD) (base : Nat) (y : Nat) (kp pd at' od fi la pc : Int) (f : Int → Int) (k : Int) (hq : base ≤ y) (hI : PInv f) (hk : 0 ≤ k ∧ k < f 1) : Ct l yX9_below wsX9_below rm_X9_below D base [.ref y, .int (J k)] (fun H => MoO D y kp pd at' od fi la pc H ∧ NwAt D y f H) (PI (fun H v H1 => H = H1 ∧ popc (famS f k) - 1 = v)) := by
  refine Ct.of (own := RX9) (cc := cX9_below) (maxL := 4) (by decide +kernel) rfl (Nat.le_of_ble_eq_true rfl) rfl ?_
  intro K H X R hH hnm hP
  show G K 0 0 H 0 [(0, .ref y), (1, .int (J k))] []
  obtain ⟨hO, hNw⟩ := hP
  have hnum := hI.nums
  refine g_iconst (pc := 0) X dX9_below_0 ?_
  refine g_istore_n (pc := 1) (lv' := [(2, _), (0, _), (1, _)]) X dX9_below_1 (by decide) rfl ?_
  refine g_iconst (pc := 2) X dX9_below_2 ?_
  refine g_istore_n (pc := 3) (lv' := [(3, _), (2, _), (0, _), (1, _)]) X dX9_below_3 (by decide) rfl ?_
  have hL4 : ∀ (fu : Nat) (j : Nat) (ji c : Int), (f 1).toNat - j < fu → (ji = (j : Int)) → ((j : Int) ≤ f 1) → (c = cnt (fun n => decide (¬ n = k ∧ isin (famS f k) n)) j) → G K 0 0 H 4 [(0, .ref y), (1, .int (J k)), (2, .int (J c)), (3, .int (J ji))] [] := by
    intro fu
    induction fu with
    | zero => intro j ji c hm; exact absurd hm (Nat.not_lt_zero _)
    | succ fu ih4 =>
      intro j ji c hm he h1 hc
      subst he
      refine g_iload_n (pc := 4) (pl := 3) X dX9_below_4 rfl ?_
      refine g_aload_n (pc := 5) (pl := 0) X dX9_below_5 rfl ?_
      refine g_getf (pc := 6) X zF_X9_below_7 hO rfl dX9_below_6 ?_
      refine g_iconst (pc := 9) X dX9_below_9 ?_
      refine g_iaload (pc := 10) X hNw (by omega) (by omega) (by omega) dX9_below_10 ?_
      refine g_icmp_ge (pc := 11) X 42 dX9_below_11 (by decide) (by omega) (by omega) (fun c11 => ?_) (fun c11 => ?_)
      · skip
        refine g_iload_n (pc := 42) (pl := 2) X dX9_below_42 rfl ?_
        refine g_iret (pc := 43) X R hH dX9_below_43 ?_
        have ek : (f 1).toNat = j := by omega
        have eb := below_eq hI hk
        rw [ek, ← hc] at eb
        exact ⟨rfl, eb.symm⟩
      · skip
        refine g_iload_n (pc := 14) (pl := 2) X dX9_below_14 rfl ?_
        refine g_iload_n (pc := 15) (pl := 3) X dX9_below_15 rfl ?_
        refine g_iload_n (pc := 16) (pl := 1) X dX9_below_16 rfl ?_
        refine g_icmp_eq (pc := 17) X 33 dX9_below_17 (by decide) (by omega) (by omega) (fun c17 => ?_) (fun c17 => ?_)
        · skip
          refine g_iconst (pc := 33) X dX9_below_33 ?_
          refine g_iadd (pc := 34) X dX9_below_34 ?_
          refine g_istore_n (pc := 35) (lv' := [(2, _), (0, _), (1, _), (3, _)]) X dX9_below_35 (by decide) rfl ?_
          refine g_iinc (pc := 36) (pl := 3) (x := (j : Int)) (lv' := [(3, _), (2, _), (0, _), (1, _)]) X dX9_below_36 rfl (by decide) rfl ?_
          refine g_goto (pc := 39) X 4 dX9_below_39 (by decide) ?_
          refine G.pick [2, 3, 1, 0] (lv' := [(0, _), (1, _), (2, _), (3, _)]) rfl ?_
          have q := cnt_no (P := fun n => decide (¬ n = k ∧ isin (famS f k) n)) (n := j) (fun z => by have z2 := of_decide_eq_true z; first | exact c26 z2.2 | exact z2.1 c17)
          exact ih4 (j + 1) _ _ (by omega) (by omega) (by omega) (by omega)
        · skip
          refine g_aload_n (pc := 20) (pl := 0) X dX9_below_20 rfl ?_
          refine g_iload_n (pc := 21) (pl := 3) X dX9_below_21 rfl ?_
          refine g_iload_n (pc := 22) (pl := 1) X dX9_below_22 rfl ?_
          refine gVi (pc := 23) (n2 := 0) (k2 := 0) X cs_X9_below_88 (c_X9_isBelow (zl K) D base y kp pd at' od fi la pc f (j : Int) k hq hI (by omega) hk) rfl hO (by omega) ⟨hO, hNw⟩ rfl ⟨Nat.le_of_ble_eq_true rfl, Nat.le_of_ble_eq_true rfl⟩ dX9_below_23 (Nat.le_of_ble_eq_true rfl) rfl rfl (fun v23 H1 hp23 hs23 => ?_)
          obtain ⟨rfl, rfl⟩ := hp23
          refine g_if_eq (pc := 26) X 33 dX9_below_26 (by decide) (zbr _) (fun c26 => ?_) (fun c26 => ?_)
          · skip
            replace c26 := zb0 c26
            refine g_iconst (pc := 33) X dX9_below_33 ?_
            refine g_iadd (pc := 34) X dX9_below_34 ?_
            refine g_istore_n (pc := 35) (lv' := [(2, _), (0, _), (1, _), (3, _)]) X dX9_below_35 (by decide) rfl ?_
            refine g_iinc (pc := 36) (pl := 3) (x := (j : Int)) (lv' := [(3, _), (2, _), (0, _), (1, _)]) X dX9_below_36 rfl (by decide) rfl ?_
            refine g_goto (pc := 39) X 4 dX9_below_39 (by decide) ?_
            refine G.pick [2, 3, 1, 0] (lv' := [(0, _), (1, _), (2, _), (3, _)]) rfl ?_
            have q := cnt_no (P := fun n => decide (¬ n = k ∧ isin (famS f k) n)) (n := j) (fun z => by have z2 := of_decide_eq_true z; first | exact c26 z2.2 | exact z2.1 c17)
            exact ih4 (j + 1) _ _ (by omega) (by omega) (by omega) (by omega)
          · skip
            replace c26 := zb1 c26
            refine g_iconst (pc := 29) X dX9_below_29 ?_
            refine g_goto (pc := 30) X 34 dX9_below_30 (by decide) ?_
            refine g_iadd (pc := 34) X dX9_below_34 ?_
            refine g_istore_n (pc := 35) (lv' := [(2, _), (0, _), (1, _), (3, _)]) X dX9_below_35 (by decide) rfl ?_
            refine g_iinc (pc := 36) (pl := 3) (x := (j : Int)) (lv' := [(3, _), (2, _), (0, _), (1, _)]) X dX9_below_36 rfl (by decide) rfl ?_
            refine g_goto (pc := 39) X 4 dX9_below_39 (by decide) ?_
            refine G.pick [2, 3, 1, 0] (lv' := [(0, _), (1, _), (2, _), (3, _)]) rfl ?_
            have q := cnt_yes (P := fun n => decide (¬ n = k ∧ isin (famS f k) n)) (n := j) (decide_eq_true ⟨c17, c26⟩)
            exact ih4 (j + 1) _ _ (by omega) (by omega) (by omega) (by omega)
  refine G.pick [2, 3, 1, 0] (lv' := [(0, _), (1, _), (2, _), (3, _)]) rfl ?_
  exact hL4 _ 0 _ _ (Nat.lt_succ_self _) rfl (by omega) rfl

/-! the model: its object, its state -/
def MoO (D : zD) (y : Nat) (kp pd at' od fi la pc : Int) (H : Heap) : Prop := Ob D y 9 [.ref (y + 1), .ref (y + 2), .int (J kp), .ref (y + 3), .ref (y + 4), .ref (y + 5), .int (J pd), .int (J at'), .ref (y + 6), .int (J od), .int (J fi), .int (J la), .int (J pc), .ref (y + 7), .ref (y + 8), .ref (y + 9), .ref (y + 10)] H
theorem MoO.fr {D : zD} {y a b d : Nat} {kp pd at' od fi la pc : Int} {H H' : Heap} (h : MoO D y kp pd at' od fi la pc H) (f : Fr (Iv a b) d H H') (e : y < a ∨ b ≤ y) : MoO D y kp pd at' od fi la pc H' := Ob.fr h f e
def NwAt (D : zD) (y : Nat) (f : Int → Int) (H : Heap) : Prop := Ia D (y + 1) 1405 f H
theorem NwAt.fr {D : zD} {y a b d : Nat} {f : Int → Int} {H H' : Heap} (h : NwAt D y f H) (fr : Fr (Iv a b) d H H') (e : y + 1 < a ∨ b ≤ y + 1) : NwAt D y f H' := Ia.fr h fr e

abbrev rm_X9_in : Room := { frames := 0, cells := 0, slots := 0, locals := 0 }
set_option maxRecDepth 100000 in
theorem c_X9_in (l : Launch) (D : zD) (base : Nat) (a b c : Int) (ha : rg a) (hb : rg b) (hc : rg c) : Ct l yX9_in wsX9_in rm_X9_in D base [.int (J a), .int (J b), .int (J c)] (fun _ => True) (PI (fun H v H1 => H = H1 ∧ (if b ≤ a ∧ a ≤ c then 1 else 0) = v)) := by
  refine Ct.of (own := RX9) (cc := cX9_in) (maxL := 3) (by decide +kernel) rfl (Nat.le_of_ble_eq_true rfl) rfl ?_
  intro K H X R hH hnm hP
  show G K 0 0 H 0 [(0, .int (J a)), (1, .int (J b)), (2, .int (J c))] []
  refine g_iload_n (pc := 0) (pl := 0) X dX9_in_0 rfl ?_
  refine g_iload_n (pc := 1) (pl := 1) X dX9_in_1 rfl ?_
  refine g_icmp_lt (pc := 2) X 14 dX9_in_2 (by decide) (by omega) (by omega) (fun c2 => ?_) (fun c2 => ?_)
  · skip
    refine g_iconst (pc := 14) X dX9_in_14 ?_
    refine g_zret (pc := 15) X R hH (by first | exact Or.inl rfl | exact Or.inr rfl | omega) dX9_in_15 ?_
    refine ⟨rfl, ?_⟩
    (repeat' split) <;> first | rfl | (exfalso; omega)
  · skip
    refine g_iload_n (pc := 5) (pl := 0) X dX9_in_5 rfl ?_
    refine g_iload_n (pc := 6) (pl := 2) X dX9_in_6 rfl ?_
    refine g_icmp_gt (pc := 7) X 14 dX9_in_7 (by decide) (by omega) (by omega) (fun c7 => ?_) (fun c7 => ?_)
    · skip
      refine g_iconst (pc := 14) X dX9_in_14 ?_
      refine g_zret (pc := 15) X R hH (by first | exact Or.inl rfl | exact Or.inr rfl | omega) dX9_in_15 ?_
      refine ⟨rfl, ?_⟩
      (repeat' split) <;> first | rfl | (exfalso; omega)
    · skip
      refine g_iconst (pc := 10) X dX9_in_10 ?_
      refine g_goto (pc := 11) X 15 dX9_in_11 (by decide) ?_
      refine g_zret (pc := 15) X R hH (by first | exact Or.inl rfl | exact Or.inr rfl | omega) dX9_in_15 ?_
      refine ⟨rfl, ?_⟩
      (repeat' split) <;> first | rfl | (exfalso; omega)

abbrev rm_X9_of0 : Room := { frames := 0, cells := 0, slots := 0, locals := 0 }
theorem zF_X9_of0_7 : zF RX9 wsX9_of0 9 0 7 := ⟨RX9, TX9, 17, rfl, by decide +kernel, by decide, by decide +kernel⟩
set_option maxRecDepth 100000 in
theorem c_X9_of0 (l : Launch) (D : zD) (base : Nat) (y : Nat) (kp pd at' od fi la pc : Int) (f : Int → Int) (i k : Int) (hq : base ≤ y) (hi : 0 ≤ i ∧ i < 16) (hk : 0 ≤ k ∧ k < 80) : Ct l yX9_of0 wsX9_of0 rm_X9_of0 D base [.ref y, .int (J i), .int (J k)] (fun H => MoO D y kp pd at' od fi la pc H ∧ NwAt D y f H) (PI (fun H v H1 => H = H1 ∧ f (125 + 80 * i + k) = v)) := by
  refine Ct.of (own := RX9) (cc := cX9_of0) (maxL := 3) (by decide +kernel) rfl (Nat.le_of_ble_eq_true rfl) rfl ?_
  intro K H X R hH hnm hP
  show G K 0 0 H 0 [(0, .ref y), (1, .int (J i)), (2, .int (J k))] []
  obtain ⟨hO, hNw⟩ := hP
  refine g_aload_n (pc := 0) (pl := 0) X dX9_of0_0 rfl ?_
  refine g_getf (pc := 1) X zF_X9_of0_7 hO rfl dX9_of0_1 ?_
  refine g_bipush (pc := 4) X dX9_of0_4 (by decide +kernel) ?_
  refine g_bipush (pc := 6) X dX9_of0_6 (by decide +kernel) ?_
  refine g_iload_n (pc := 8) (pl := 1) X dX9_of0_8 rfl ?_
  refine g_imul (pc := 9) X dX9_of0_9 ?_
  refine g_iadd (pc := 10) X dX9_of0_10 ?_
  refine g_iload_n (pc := 11) (pl := 2) X dX9_of0_11 rfl ?_
  refine g_iadd (pc := 12) X dX9_of0_12 ?_
  refine g_iaload (pc := 13) X hNw (by omega) (by omega) (by omega) dX9_of0_13 ?_
  refine g_iret (pc := 14) X R hH dX9_of0_14 ?_
  exact ⟨rfl, rfl⟩

abbrev rm_X9_isNote : Room := { frames := 1, cells := 0, slots := 0, locals := 22 }
theorem zF_X9_isNote_7 : zF RX9 wsX9_isNote 9 0 7 := ⟨RX9, TX9, 17, rfl, by decide +kernel, by decide, by decide +kernel⟩
theorem cs_X9_isNote_41 : zCJ RX9 wsX9_isNote 41 yX9_in wsX9_in cX9_in 3 (some .boolean) rm_X9_isNote rm_X9_in 3 := ⟨_, gX9_isNote_X9_in, rfl, ⟨by decide +kernel, by decide +kernel, by decide +kernel⟩, ⟨Nat.le_of_ble_eq_true rfl, Nat.le_of_ble_eq_true rfl⟩⟩
set_option maxRecDepth 100000 in
theorem c_X9_isNote (l : Launch) (D : zD) (base : Nat) (y : Nat) (kp pd at' od fi la pc : Int) (f : Int → Int) (i : Int) (hq : base ≤ y) (hI : PInv f) (hi : rg i) : Ct l yX9_isNote wsX9_isNote rm_X9_isNote D base [.ref y, .int (J i)] (fun H => MoO D y kp pd at' od fi la pc H ∧ NwAt D y f H) (PI (fun H v H1 => H = H1 ∧ (if 0 ≤ i ∧ i < f 1 then 1 else 0) = v)) := by
  refine Ct.of (own := RX9) (cc := cX9_isNote) (maxL := 2) (by decide +kernel) rfl (Nat.le_of_ble_eq_true rfl) rfl ?_
  intro K H X R hH hnm hP
  show G K 0 0 H 0 [(0, .ref y), (1, .int (J i))] []
  obtain ⟨hO, hNw⟩ := hP
  have hnum := hI.nums
  refine g_iload_n (pc := 0) (pl := 1) X dX9_isNote_0 rfl ?_
  refine g_iconst (pc := 1) X dX9_isNote_1 ?_
  refine g_aload_n (pc := 2) (pl := 0) X dX9_isNote_2 rfl ?_
  refine g_getf (pc := 3) X zF_X9_isNote_7 hO rfl dX9_isNote_3 ?_
  refine g_iconst (pc := 6) X dX9_isNote_6 ?_
  refine g_iaload (pc := 7) X hNw (by omega) (by omega) (by omega) dX9_isNote_7 ?_
  refine g_iconst (pc := 8) X dX9_isNote_8 ?_
  refine g_isub (pc := 9) X dX9_isNote_9 ?_
  refine gJi (pc := 10) (n2 := 0) (k2 := 0) X cs_X9_isNote_41 (c_X9_in (zl K) D base i 0 (f 1 - 1) (by omega) (by omega) (by omega)) rfl (by have := hO.lt; omega) trivial rfl ⟨Nat.le_of_ble_eq_true rfl, Nat.le_of_ble_eq_true rfl⟩ dX9_isNote_10 (Nat.le_of_ble_eq_true rfl) rfl rfl (fun v10 H1 hp10 hs10 => ?_)
  obtain ⟨rfl, rfl⟩ := hp10
  refine g_zret (pc := 13) X R hH (zbo _) dX9_isNote_13 ?_
  refine ⟨rfl, ?_⟩
  (repeat' split) <;> first | rfl | (exfalso; omega)

abbrev rm_X9_isPlace : Room := { frames := 1, cells := 0, slots := 0, locals := 22 }
theorem zF_X9_isPlace_7 : zF RX9 wsX9_isPlace 9 0 7 := ⟨RX9, TX9, 17, rfl, by decide +kernel, by decide, by decide +kernel⟩
theorem cs_X9_isPlace_41 : zCJ RX9 wsX9_isPlace 41 yX9_in wsX9_in cX9_in 3 (some .boolean) rm_X9_isPlace rm_X9_in 3 := ⟨_, gX9_isPlace_X9_in, rfl, ⟨by decide +kernel, by decide +kernel, by decide +kernel⟩, ⟨Nat.le_of_ble_eq_true rfl, Nat.le_of_ble_eq_true rfl⟩⟩
set_option maxRecDepth 100000 in
theorem c_X9_isPlace (l : Launch) (D : zD) (base : Nat) (y : Nat) (kp pd at' od fi la pc : Int) (f : Int → Int) (i : Int) (hq : base ≤ y) (hI : PInv f) (hi : rg i) : Ct l yX9_isPlace wsX9_isPlace rm_X9_isPlace D base [.ref y, .int (J i)] (fun H => MoO D y kp pd at' od fi la pc H ∧ NwAt D y f H) (PI (fun H v H1 => H = H1 ∧ (if 0 ≤ i ∧ i < f 0 then 1 else 0) = v)) := by
  refine Ct.of (own := RX9) (cc := cX9_isPlace) (maxL := 2) (by decide +kernel) rfl (Nat.le_of_ble_eq_true rfl) rfl ?_
  intro K H X R hH hnm hP
  show G K 0 0 H 0 [(0, .ref y), (1, .int (J i))] []
  obtain ⟨hO, hNw⟩ := hP
  have hnum := hI.nums
  refine g_iload_n (pc := 0) (pl := 1) X dX9_isPlace_0 rfl ?_
  refine g_iconst (pc := 1) X dX9_isPlace_1 ?_
  refine g_aload_n (pc := 2) (pl := 0) X dX9_isPlace_2 rfl ?_
  refine g_getf (pc := 3) X zF_X9_isPlace_7 hO rfl dX9_isPlace_3 ?_
  refine g_iconst (pc := 6) X dX9_isPlace_6 ?_
  refine g_iaload (pc := 7) X hNw (by omega) (by omega) (by omega) dX9_isPlace_7 ?_
  refine g_iconst (pc := 8) X dX9_isPlace_8 ?_
  refine g_isub (pc := 9) X dX9_isPlace_9 ?_
  refine gJi (pc := 10) (n2 := 0) (k2 := 0) X cs_X9_isPlace_41 (c_X9_in (zl K) D base i 0 (f 0 - 1) (by omega) (by omega) (by omega)) rfl (by have := hO.lt; omega) trivial rfl ⟨Nat.le_of_ble_eq_true rfl, Nat.le_of_ble_eq_true rfl⟩ dX9_isPlace_10 (Nat.le_of_ble_eq_true rfl) rfl rfl (fun v10 H1 hp10 hs10 => ?_)
  obtain ⟨rfl, rfl⟩ := hp10
  refine g_zret (pc := 13) X R hH (zbo _) dX9_isPlace_13 ?_
  refine ⟨rfl, ?_⟩
  (repeat' split) <;> first | rfl | (exfalso; omega)

abbrev rm_X9_isReply : Room := { frames := 1, cells := 0, slots := 0, locals := 22 }
theorem cs_X9_isReply_45 : zCV RX9 wsX9_isReply 45 9 yX9_of0 wsX9_of0 cX9_of0 3 (some .int) rm_X9_isReply rm_X9_of0 2 := ⟨_, _, gX9_isReply_X9_of0, rfl, ⟨by decide +kernel, by decide +kernel, by decide +kernel⟩, ⟨Nat.le_of_ble_eq_true rfl, Nat.le_of_ble_eq_true rfl⟩, rfl, rfl⟩
set_option maxRecDepth 100000 in
theorem c_X9_isReply (l : Launch) (D : zD) (base : Nat) (y : Nat) (kp pd at' od fi la pc : Int) (f : Int → Int) (i : Int) (hq : base ≤ y) (hI : PInv f) (hi : 0 ≤ i ∧ i < f 1) : Ct l yX9_isReply wsX9_isReply rm_X9_isReply D base [.ref y, .int (J i)] (fun H => MoO D y kp pd at' od fi la pc H ∧ NwAt D y f H) (PI (fun H v H1 => H = H1 ∧ (if ¬ tgt f i = -6 then 1 else 0) = v)) := by
  refine Ct.of (own := RX9) (cc := cX9_isReply) (maxL := 2) (by decide +kernel) rfl (Nat.le_of_ble_eq_true rfl) rfl ?_
  intro K H X R hH hnm hP
  show G K 0 0 H 0 [(0, .ref y), (1, .int (J i))] []
  obtain ⟨hO, hNw⟩ := hP
  have hnum := hI.nums
  have htg := hI.tg hi.1 hi.2
  refine g_aload_n (pc := 0) (pl := 0) X dX9_isReply_0 rfl ?_
  refine g_iload_n (pc := 1) (pl := 1) X dX9_isReply_1 rfl ?_
  refine g_iconst (pc := 2) X dX9_isReply_2 ?_
  refine gVi (pc := 3) (n2 := 0) (k2 := 0) X cs_X9_isReply_45 (c_X9_of0 (zl K) D base y kp pd at' od fi la pc f i 0 hq (by omega) (by omega)) rfl hO (by omega) ⟨hO, hNw⟩ rfl ⟨Nat.le_of_ble_eq_true rfl, Nat.le_of_ble_eq_true rfl⟩ dX9_isReply_3 (Nat.le_of_ble_eq_true rfl) rfl rfl (fun v3 H1 hp3 hs3 => ?_)
  obtain ⟨rfl, rfl⟩ := hp3
  rw [show f (125 + 80 * i + 0) = tgt f i by rw [Int.add_zero]]
  refine g_bipush (pc := 6) X dX9_isReply_6 (by decide +kernel) ?_
  refine g_icmp_eq (pc := 8) X 15 dX9_isReply_8 (by decide) (by omega) (by omega) (fun c8 => ?_) (fun c8 => ?_)
  · skip
    refine g_iconst (pc := 15) X dX9_isReply_15 ?_
    refine g_zret (pc := 16) X R hH (by first | exact Or.inl rfl | exact Or.inr rfl | omega) dX9_isReply_16 ?_
    refine ⟨rfl, ?_⟩
    (repeat' split) <;> first | rfl | (exfalso; omega)
  · skip
    refine g_iconst (pc := 11) X dX9_isReply_11 ?_
    refine g_goto (pc := 12) X 16 dX9_isReply_12 (by decide) ?_
    refine g_zret (pc := 16) X R hH (by first | exact Or.inl rfl | exact Or.inr rfl | omega) dX9_isReply_16 ?_
    refine ⟨rfl, ?_⟩
    (repeat' split) <;> first | rfl | (exfalso; omega)

abbrev rm_X9_isOf : Room := { frames := 0, cells := 0, slots := 0, locals := 0 }
theorem zF_X9_isOf_7 : zF RX9 wsX9_isOf 9 0 7 := ⟨RX9, TX9, 17, rfl, by decide +kernel, by decide, by decide +kernel⟩
set_option maxRecDepth 100000 in
theorem c_X9_isOf (l : Launch) (D : zD) (base : Nat) (y : Nat) (kp pd at' od fi la pc : Int) (f : Int → Int) (p i : Int) (hq : base ≤ y) (hI : PInv f) (hp : 0 ≤ p ∧ p < f 0) (hi : 0 ≤ i ∧ i < 16) : Ct l yX9_isOf wsX9_isOf rm_X9_isOf D base [.ref y, .int (J p), .int (J i)] (fun H => MoO D y kp pd at' od fi la pc H ∧ NwAt D y f H) (PI (fun H v H1 => H = H1 ∧ (if isin (f (65 + p)) i then 1 else 0) = v)) := by
  refine Ct.of (own := RX9) (cc := cX9_isOf) (maxL := 3) (by decide +kernel) rfl (Nat.le_of_ble_eq_true rfl) rfl ?_
  intro K H X R hH hnm hP
  show G K 0 0 H 0 [(0, .ref y), (1, .int (J p)), (2, .int (J i))] []
  obtain ⟨hO, hNw⟩ := hP
  have hnum := hI.nums
  have how : 0 ≤ f (65 + p) ∧ f (65 + p) < 65536 := hI.own p hp.1 hp.2
  refine g_aload_n (pc := 0) (pl := 0) X dX9_isOf_0 rfl ?_
  refine g_getf (pc := 1) X zF_X9_isOf_7 hO rfl dX9_isOf_1 ?_
  refine g_bipush (pc := 4) X dX9_isOf_4 (by decide +kernel) ?_
  refine g_iload_n (pc := 6) (pl := 1) X dX9_isOf_6 rfl ?_
  refine g_iadd (pc := 7) X dX9_isOf_7 ?_
  refine g_iaload (pc := 8) X hNw (by omega) (by omega) (by omega) dX9_isOf_8 ?_
  refine g_iload_n (pc := 9) (pl := 2) X dX9_isOf_9 rfl ?_
  refine g_ishr (pc := 10) (z := J (((f (65 + p)).toNat / 2 ^ i.toNat : Nat) : Int)) X dX9_isOf_10 (J_shr (by omega) (by omega)) ?_
  refine g_iconst (pc := 11) X dX9_isOf_11 ?_
  refine g_iand (pc := 12) (z := J (if btt (f (65 + p)) i then 1 else 0)) X dX9_isOf_12 (by rw [J_and (by first | exact Int.natCast_nonneg _ | exact Int.ofNat_nonneg _) (by omega), btt_div]) ?_
  refine g_iconst (pc := 13) X dX9_isOf_13 ?_
  refine g_icmp_ne (pc := 14) X 21 dX9_isOf_14 (by decide) (by split <;> omega) (by omega) (fun c14 => ?_) (fun c14 => ?_)
  · skip
    refine g_iconst (pc := 21) X dX9_isOf_21 ?_
    refine g_zret (pc := 22) X R hH (by first | exact Or.inl rfl | exact Or.inr rfl | omega) dX9_isOf_22 ?_
    refine ⟨rfl, ?_⟩
    by_cases z : btt (f (65 + p)) i = true
    · rw [if_pos z] at c14; first | exact if_pos ⟨hi.1, hi.2, z⟩ | exact absurd rfl c14
    · rw [if_neg z] at c14; first | exact if_neg (fun q => z q.2.2) | (exfalso; omega)
  · skip
    refine g_iconst (pc := 17) X dX9_isOf_17 ?_
    refine g_goto (pc := 18) X 22 dX9_isOf_18 (by decide) ?_
    refine g_zret (pc := 22) X R hH (by first | exact Or.inl rfl | exact Or.inr rfl | omega) dX9_isOf_22 ?_
    refine ⟨rfl, ?_⟩
    by_cases z : btt (f (65 + p)) i = true
    · rw [if_pos z] at c14; first | exact if_pos ⟨hi.1, hi.2, z⟩ | exact absurd rfl c14
    · rw [if_neg z] at c14; first | exact if_neg (fun q => z q.2.2) | (exfalso; omega)

abbrev rm_X9_present : Room := { frames := 1, cells := 0, slots := 0, locals := 22 }
theorem zF_X9_present_7 : zF RX9 wsX9_present 9 0 7 := ⟨RX9, TX9, 17, rfl, by decide +kernel, by decide, by decide +kernel⟩
theorem cs_X9_present_60 : zCV RX9 wsX9_present 60 9 yX9_isOf wsX9_isOf cX9_isOf 3 (some .boolean) rm_X9_present rm_X9_isOf 2 := ⟨_, _, gX9_present_X9_isOf, rfl, ⟨by decide +kernel, by decide +kernel, by decide +kernel⟩, ⟨Nat.le_of_ble_eq_true rfl, Nat.le_of_ble_eq_true rfl⟩, rfl, rfl⟩
set_option maxRecDepth 100000 in
theorem c_X9_present (l : Launch) (D : zD) (base : Nat) (y : Nat) (kp pd at' od fi la pc : Int) (f : Int → Int) (i : Int) (hq : base ≤ y) (hI : PInv f) (hi : 0 ≤ i ∧ i < 16) : Ct l yX9_present wsX9_present rm_X9_present D base [.ref y, .int (J i)] (fun H => MoO D y kp pd at' od fi la pc H ∧ NwAt D y f H) (PI (fun H v H1 => H = H1 ∧ ntL f i = v)) := by
  refine Ct.of (own := RX9) (cc := cX9_present) (maxL := 4) (by decide +kernel) rfl (Nat.le_of_ble_eq_true rfl) rfl ?_
  intro K H X R hH hnm hP
  show G K 0 0 H 0 [(0, .ref y), (1, .int (J i))] []
  obtain ⟨hO, hNw⟩ := hP
  have hnum := hI.nums
  refine g_iconst (pc := 0) X dX9_present_0 ?_
  refine g_istore_n (pc := 1) (lv' := [(2, _), (0, _), (1, _)]) X dX9_present_1 (by decide) rfl ?_
  refine g_iconst (pc := 2) X dX9_present_2 ?_
  refine g_istore_n (pc := 3) (lv' := [(3, _), (2, _), (0, _), (1, _)]) X dX9_present_3 (by decide) rfl ?_
  have hL4 : ∀ (fu : Nat) (k : Nat) (ki c : Int), (f 0).toNat - k < fu → (ki = (k : Int)) → ((k : Int) ≤ f 0) → (c = scL (ownb (OW f) i) k) → G K 0 0 H 4 [(0, .ref y), (1, .int (J i)), (2, .int (J c)), (3, .int (J ki))] [] := by
    intro fu
    induction fu with
    | zero => intro k ki c hm; exact absurd hm (Nat.not_lt_zero _)
    | succ fu ih4 =>
      intro k ki c hm he h1 hc
      subst he
      refine g_iload_n (pc := 4) (pl := 3) X dX9_present_4 rfl ?_
      refine g_aload_n (pc := 5) (pl := 0) X dX9_present_5 rfl ?_
      refine g_getf (pc := 6) X zF_X9_present_7 hO rfl dX9_present_6 ?_
      refine g_iconst (pc := 9) X dX9_present_9 ?_
      refine g_iaload (pc := 10) X hNw (by omega) (by omega) (by omega) dX9_present_10 ?_
      refine g_icmp_ge (pc := 11) X 37 dX9_present_11 (by decide) (by omega) (by omega) (fun c11 => ?_) (fun c11 => ?_)
      · skip
        refine g_iload_n (pc := 37) (pl := 2) X dX9_present_37 rfl ?_
        refine g_iret (pc := 38) X R hH dX9_present_38 ?_
        have ek : (f 0).toNat = k := by omega
        exact ⟨rfl, by unfold ntL; rw [ek]; exact hc.symm⟩
      · skip
        refine g_iload_n (pc := 14) (pl := 2) X dX9_present_14 rfl ?_
        refine g_aload_n (pc := 15) (pl := 0) X dX9_present_15 rfl ?_
        refine g_iload_n (pc := 16) (pl := 3) X dX9_present_16 rfl ?_
        refine g_iload_n (pc := 17) (pl := 1) X dX9_present_17 rfl ?_
        refine gVi (pc := 18) (n2 := 0) (k2 := 0) X cs_X9_present_60 (c_X9_isOf (zl K) D base y kp pd at' od fi la pc f (k : Int) i hq hI (by omega) (by omega)) rfl hO (by omega) ⟨hO, hNw⟩ rfl ⟨Nat.le_of_ble_eq_true rfl, Nat.le_of_ble_eq_true rfl⟩ dX9_present_18 (Nat.le_of_ble_eq_true rfl) rfl rfl (fun v18 H1 hp18 hs18 => ?_)
        obtain ⟨rfl, rfl⟩ := hp18
        refine g_if_eq (pc := 21) X 28 dX9_present_21 (by decide) (zbr _) (fun c21 => ?_) (fun c21 => ?_)
        · skip
          replace c21 := zb0 c21
          refine g_iconst (pc := 28) X dX9_present_28 ?_
          refine g_iadd (pc := 29) X dX9_present_29 ?_
          refine g_istore_n (pc := 30) (lv' := [(2, _), (0, _), (1, _), (3, _)]) X dX9_present_30 (by decide) rfl ?_
          refine g_iinc (pc := 31) (pl := 3) (x := (k : Int)) (lv' := [(3, _), (2, _), (0, _), (1, _)]) X dX9_present_31 rfl (by decide) rfl ?_
          refine g_goto (pc := 34) X 4 dX9_present_34 (by decide) ?_
          refine G.pick [2, 3, 1, 0] (lv' := [(0, _), (1, _), (2, _), (3, _)]) rfl ?_
          have q := (sc_no (o := (ownb (OW f) i)) (p := k) (fun z => c21 (of_decide_eq_true z))).2.1
          exact ih4 (k + 1) _ _ (by omega) (by omega) (by omega) (by omega)
        · skip
          replace c21 := zb1 c21
          refine g_iconst (pc := 24) X dX9_present_24 ?_
          refine g_goto (pc := 25) X 29 dX9_present_25 (by decide) ?_
          refine g_iadd (pc := 29) X dX9_present_29 ?_
          refine g_istore_n (pc := 30) (lv' := [(2, _), (0, _), (1, _), (3, _)]) X dX9_present_30 (by decide) rfl ?_
          refine g_iinc (pc := 31) (pl := 3) (x := (k : Int)) (lv' := [(3, _), (2, _), (0, _), (1, _)]) X dX9_present_31 rfl (by decide) rfl ?_
          refine g_goto (pc := 34) X 4 dX9_present_34 (by decide) ?_
          refine G.pick [2, 3, 1, 0] (lv' := [(0, _), (1, _), (2, _), (3, _)]) rfl ?_
          have q := (sc_yes (o := (ownb (OW f) i)) (p := k) (decide_eq_true c21)).2.1
          exact ih4 (k + 1) _ _ (by omega) (by omega) (by omega) (by omega)
  refine G.pick [2, 3, 1, 0] (lv' := [(0, _), (1, _), (2, _), (3, _)]) rfl ?_
  exact hL4 _ 0 _ _ (Nat.lt_succ_self _) rfl (by omega) rfl

abbrev rm_X9_isOrphan : Room := { frames := 2, cells := 0, slots := 0, locals := 45 }
theorem cs_X9_isOrphan_64 : zCV RX9 wsX9_isOrphan 64 9 yX9_isReply wsX9_isReply cX9_isReply 2 (some .boolean) rm_X9_isOrphan rm_X9_isReply 1 := ⟨_, _, gX9_isOrphan_X9_isReply, rfl, ⟨by decide +kernel, by decide +kernel, by decide +kernel⟩, ⟨Nat.le_of_ble_eq_true rfl, Nat.le_of_ble_eq_true rfl⟩, rfl, rfl⟩
theorem cs_X9_isOrphan_68 : zCV RX9 wsX9_isOrphan 68 9 yX9_present wsX9_present cX9_present 4 (some .int) rm_X9_isOrphan rm_X9_present 1 := ⟨_, _, gX9_isOrphan_X9_present, rfl, ⟨by decide +kernel, by decide +kernel, by decide +kernel⟩, ⟨Nat.le_of_ble_eq_true rfl, Nat.le_of_ble_eq_true rfl⟩, rfl, rfl⟩
set_option maxRecDepth 100000 in
theorem c_X9_isOrphan (l : Launch) (D : zD) (base : Nat) (y : Nat) (kp pd at' od fi la pc : Int) (f : Int → Int) (i : Int) (hq : base ≤ y) (hI : PInv f) (hi : 0 ≤ i ∧ i < f 1) : Ct l yX9_isOrphan wsX9_isOrphan rm_X9_isOrphan D base [.ref y, .int (J i)] (fun H => MoO D y kp pd at' od fi la pc H ∧ NwAt D y f H) (PI (fun H v H1 => H = H1 ∧ (if stt f i = 1 then 1 else 0) = v)) := by
  refine Ct.of (own := RX9) (cc := cX9_isOrphan) (maxL := 2) (by decide +kernel) rfl (Nat.le_of_ble_eq_true rfl) rfl ?_
  intro K H X R hH hnm hP
  show G K 0 0 H 0 [(0, .ref y), (1, .int (J i))] []
  obtain ⟨hO, hNw⟩ := hP
  have hnum := hI.nums
  refine g_aload_n (pc := 0) (pl := 0) X dX9_isOrphan_0 rfl ?_
  refine g_iload_n (pc := 1) (pl := 1) X dX9_isOrphan_1 rfl ?_
  refine gVi (pc := 2) (n2 := 0) (k2 := 0) X cs_X9_isOrphan_64 (c_X9_isReply (zl K) D base y kp pd at' od fi la pc f i hq hI hi) rfl hO (by omega) ⟨hO, hNw⟩ rfl ⟨Nat.le_of_ble_eq_true rfl, Nat.le_of_ble_eq_true rfl⟩ dX9_isOrphan_2 (Nat.le_of_ble_eq_true rfl) rfl rfl (fun v2 H1 hp2 hs2 => ?_)
  obtain ⟨rfl, rfl⟩ := hp2
  refine g_if_ne (pc := 5) X 20 dX9_isOrphan_5 (by decide) (zbr _) (fun c5 => ?_) (fun c5 => ?_)
  · skip
    replace c5 := zb1 c5
    refine g_iconst (pc := 20) X dX9_isOrphan_20 ?_
    refine g_zret (pc := 21) X R hH (by first | exact Or.inl rfl | exact Or.inr rfl | omega) dX9_isOrphan_21 ?_
    refine ⟨rfl, ?_⟩
    unfold stt
    (repeat' split) <;> first | rfl | (exfalso; omega)
  · skip
    replace c5 := zb0 c5
    refine g_aload_n (pc := 8) (pl := 0) X dX9_isOrphan_8 rfl ?_
    refine g_iload_n (pc := 9) (pl := 1) X dX9_isOrphan_9 rfl ?_
    refine gVi (pc := 10) (n2 := 0) (k2 := 0) X cs_X9_isOrphan_68 (c_X9_present (zl K) D base y kp pd at' od fi la pc f i hq hI (by omega)) rfl hO (by omega) ⟨hO, hNw⟩ rfl ⟨Nat.le_of_ble_eq_true rfl, Nat.le_of_ble_eq_true rfl⟩ dX9_isOrphan_10 (Nat.le_of_ble_eq_true rfl) rfl rfl (fun v10 H1 hp10 hs10 => ?_)
    obtain ⟨rfl, rfl⟩ := hp10
    have hsb := nt_bd f i
    refine g_if_ne (pc := 13) X 20 dX9_isOrphan_13 (by decide) (by omega) (fun c13 => ?_) (fun c13 => ?_)
    · skip
      refine g_iconst (pc := 20) X dX9_isOrphan_20 ?_
      refine g_zret (pc := 21) X R hH (by first | exact Or.inl rfl | exact Or.inr rfl | omega) dX9_isOrphan_21 ?_
      refine ⟨rfl, ?_⟩
      unfold stt
      (repeat' split) <;> first | rfl | (exfalso; omega)
    · skip
      refine g_iconst (pc := 16) X dX9_isOrphan_16 ?_
      refine g_goto (pc := 17) X 21 dX9_isOrphan_17 (by decide) ?_
      refine g_zret (pc := 21) X R hH (by first | exact Or.inl rfl | exact Or.inr rfl | omega) dX9_isOrphan_21 ?_
      refine ⟨rfl, ?_⟩
      unfold stt
      (repeat' split) <;> first | rfl | (exfalso; omega)

abbrev rm_X9_orphans : Room := { frames := 3, cells := 0, slots := 0, locals := 66 }
theorem zF_X9_orphans_7 : zF RX9 wsX9_orphans 9 0 7 := ⟨RX9, TX9, 17, rfl, by decide +kernel, by decide, by decide +kernel⟩
theorem cs_X9_orphans_85 : zCV RX9 wsX9_orphans 85 9 yX9_isOrphan wsX9_isOrphan cX9_isOrphan 2 (some .boolean) rm_X9_orphans rm_X9_isOrphan 1 := ⟨_, _, gX9_orphans_X9_isOrphan, rfl, ⟨by decide +kernel, by decide +kernel, by decide +kernel⟩, ⟨Nat.le_of_ble_eq_true rfl, Nat.le_of_ble_eq_true rfl⟩, rfl, rfl⟩
set_option maxRecDepth 100000 in
theorem c_X9_orphans (l : Launch) (D : zD) (base : Nat) (y : Nat) (kp pd at' od fi la pc : Int) (f : Int → Int) (hq : base ≤ y) (hI : PInv f) : Ct l yX9_orphans wsX9_orphans rm_X9_orphans D base [.ref y] (fun H => MoO D y kp pd at' od fi la pc H ∧ NwAt D y f H) (PI (fun H v H1 => H = H1 ∧ cst f 1 = v)) := by
  refine Ct.of (own := RX9) (cc := cX9_orphans) (maxL := 3) (by decide +kernel) rfl (Nat.le_of_ble_eq_true rfl) rfl ?_
  intro K H X R hH hnm hP
  show G K 0 0 H 0 [(0, .ref y)] []
  obtain ⟨hO, hNw⟩ := hP
  have hnum := hI.nums
  refine g_iconst (pc := 0) X dX9_orphans_0 ?_
  refine g_istore_n (pc := 1) (lv' := [(1, _), (0, _)]) X dX9_orphans_1 (by decide) rfl ?_
  refine g_iconst (pc := 2) X dX9_orphans_2 ?_
  refine g_istore_n (pc := 3) (lv' := [(2, _), (1, _), (0, _)]) X dX9_orphans_3 (by decide) rfl ?_
  have hL4 : ∀ (fu : Nat) (k : Nat) (ki c : Int), (f 1).toNat - k < fu → (ki = (k : Int)) → ((k : Int) ≤ f 1) → (c = cnt (fun n => decide (stt f n = 1)) k) → G K 0 0 H 4 [(0, .ref y), (1, .int (J c)), (2, .int (J ki))] [] := by
    intro fu
    induction fu with
    | zero => intro k ki c hm; exact absurd hm (Nat.not_lt_zero _)
    | succ fu ih4 =>
      intro k ki c hm he h1 hc
      subst he
      refine g_iload_n (pc := 4) (pl := 2) X dX9_orphans_4 rfl ?_
      refine g_aload_n (pc := 5) (pl := 0) X dX9_orphans_5 rfl ?_
      refine g_getf (pc := 6) X zF_X9_orphans_7 hO rfl dX9_orphans_6 ?_
      refine g_iconst (pc := 9) X dX9_orphans_9 ?_
      refine g_iaload (pc := 10) X hNw (by omega) (by omega) (by omega) dX9_orphans_10 ?_
      refine g_icmp_ge (pc := 11) X 36 dX9_orphans_11 (by decide) (by omega) (by omega) (fun c11 => ?_) (fun c11 => ?_)
      · skip
        refine g_iload_n (pc := 36) (pl := 1) X dX9_orphans_36 rfl ?_
        refine g_iret (pc := 37) X R hH dX9_orphans_37 ?_
        have ek : (f 1).toNat = k := by omega
        exact ⟨rfl, by unfold cst; rw [ek]; exact hc.symm⟩
      · skip
        refine g_iload_n (pc := 14) (pl := 1) X dX9_orphans_14 rfl ?_
        refine g_aload_n (pc := 15) (pl := 0) X dX9_orphans_15 rfl ?_
        refine g_iload_n (pc := 16) (pl := 2) X dX9_orphans_16 rfl ?_
        refine gVi (pc := 17) (n2 := 0) (k2 := 0) X cs_X9_orphans_85 (c_X9_isOrphan (zl K) D base y kp pd at' od fi la pc f (k : Int) hq hI (by omega)) rfl hO (by omega) ⟨hO, hNw⟩ rfl ⟨Nat.le_of_ble_eq_true rfl, Nat.le_of_ble_eq_true rfl⟩ dX9_orphans_17 (Nat.le_of_ble_eq_true rfl) rfl rfl (fun v17 H1 hp17 hs17 => ?_)
        obtain ⟨rfl, rfl⟩ := hp17
        refine g_if_eq (pc := 20) X 27 dX9_orphans_20 (by decide) (zbr _) (fun c20 => ?_) (fun c20 => ?_)
        · skip
          replace c20 := zb0 c20
          refine g_iconst (pc := 27) X dX9_orphans_27 ?_
          refine g_iadd (pc := 28) X dX9_orphans_28 ?_
          refine g_istore_n (pc := 29) (lv' := [(1, _), (0, _), (2, _)]) X dX9_orphans_29 (by decide) rfl ?_
          refine g_iinc (pc := 30) (pl := 2) (x := (k : Int)) (lv' := [(2, _), (1, _), (0, _)]) X dX9_orphans_30 rfl (by decide) rfl ?_
          refine g_goto (pc := 33) X 4 dX9_orphans_33 (by decide) ?_
          refine G.pick [2, 1, 0] (lv' := [(0, _), (1, _), (2, _)]) rfl ?_
          have q := cnt_no (P := fun n => decide (stt f n = 1)) (n := k) (fun z => c20 (of_decide_eq_true z))
          exact ih4 (k + 1) _ _ (by omega) (by omega) (by omega) (by omega)
        · skip
          replace c20 := zb1 c20
          refine g_iconst (pc := 23) X dX9_orphans_23 ?_
          refine g_goto (pc := 24) X 28 dX9_orphans_24 (by decide) ?_
          refine g_iadd (pc := 28) X dX9_orphans_28 ?_
          refine g_istore_n (pc := 29) (lv' := [(1, _), (0, _), (2, _)]) X dX9_orphans_29 (by decide) rfl ?_
          refine g_iinc (pc := 30) (pl := 2) (x := (k : Int)) (lv' := [(2, _), (1, _), (0, _)]) X dX9_orphans_30 rfl (by decide) rfl ?_
          refine g_goto (pc := 33) X 4 dX9_orphans_33 (by decide) ?_
          refine G.pick [2, 1, 0] (lv' := [(0, _), (1, _), (2, _)]) rfl ?_
          have q := cnt_yes (P := fun n => decide (stt f n = 1)) (n := k) (decide_eq_true c20)
          exact ih4 (k + 1) _ _ (by omega) (by omega) (by omega) (by omega)
  refine G.pick [2, 1, 0] (lv' := [(0, _), (1, _), (2, _)]) rfl ?_
  exact hL4 _ 0 _ _ (Nat.lt_succ_self _) rfl (by omega) rfl

abbrev rm_X9_finds : Room := { frames := 1, cells := 0, slots := 0, locals := 22 }
theorem zW_X9_finds_72 : zW RX9 wsX9_finds 9 12 72 false (tyX9 12) := ⟨RX9, TX9, 17, tyX9, rfl, by decide +kernel, by decide, by decide +kernel, tyX9_ok, nmX9, rfl, rfl, rfl⟩
theorem zW_X9_finds_75 : zW RX9 wsX9_finds 9 10 75 false (tyX9 10) := ⟨RX9, TX9, 17, tyX9, rfl, by decide +kernel, by decide, by decide +kernel, tyX9_ok, nmX9, rfl, rfl, rfl⟩
theorem zW_X9_finds_78 : zW RX9 wsX9_finds 9 11 78 false (tyX9 11) := ⟨RX9, TX9, 17, tyX9, rfl, by decide +kernel, by decide, by decide +kernel, tyX9_ok, nmX9, rfl, rfl, rfl⟩
theorem zF_X9_finds_7 : zF RX9 wsX9_finds 9 0 7 := ⟨RX9, TX9, 17, rfl, by decide +kernel, by decide, by decide +kernel⟩
theorem zF_X9_finds_78 : zF RX9 wsX9_finds 9 11 78 := ⟨RX9, TX9, 17, rfl, by decide +kernel, by decide, by decide +kernel⟩
theorem cs_X9_finds_60 : zCV RX9 wsX9_finds 60 9 yX9_isOf wsX9_isOf cX9_isOf 3 (some .boolean) rm_X9_finds rm_X9_isOf 2 := ⟨_, _, gX9_finds_X9_isOf, rfl, ⟨by decide +kernel, by decide +kernel, by decide +kernel⟩, ⟨Nat.le_of_ble_eq_true rfl, Nat.le_of_ble_eq_true rfl⟩, rfl, rfl⟩
theorem zF_X9_finds_72 : zF RX9 wsX9_finds 9 12 72 := ⟨RX9, TX9, 17, rfl, by decide +kernel, by decide, by decide +kernel⟩
set_option maxRecDepth 100000 in
theorem c_X9_finds (l : Launch) (D : zD) (base : Nat) (y : Nat) (kp pd at' od fi la pc : Int) (f : Int → Int) (i : Int) (hq : base ≤ y) (hI : PInv f) (hi : 0 ≤ i ∧ i < 16) : Ct l yX9_finds wsX9_finds rm_X9_finds D base [.ref y, .int (J i)] (fun H => MoO D y kp pd at' od fi la pc H ∧ NwAt D y f H) (PV (fun H H1 => MoO D y kp pd at' od (ntF f i) (ntE f i) (ntP f i) H1 ∧ NwAt D y f H1 ∧ Fr (Iv y (y + 1)) 0 H H1)) := by
  refine Ct.of (own := RX9) (cc := cX9_finds) (maxL := 5) (by decide +kernel) rfl (Nat.le_of_ble_eq_true rfl) rfl ?_
  intro K H X R hH hnm hP
  show G K 0 0 H 0 [(0, .ref y), (1, .int (J i))] []
  obtain ⟨hO, hNw⟩ := hP
  have hnum := hI.nums
  refine g_aload_n (pc := 0) (pl := 0) X dX9_finds_0 rfl ?_
  refine g_iconst (pc := 1) X dX9_finds_1 ?_
  refine g_putf (pc := 2) X zW_X9_finds_72 hO (by omega) rfl rfl rfl dX9_finds_2 (fun H1 hOn hf1 => ?_)
  replace hNw := hNw.fr hf1 (by omega)
  replace hO : Ob D y 9 [.ref (y + 1), .ref (y + 2), .int (J kp), .ref (y + 3), .ref (y + 4), .ref (y + 5), .int (J pd), .int (J at'), .ref (y + 6), .int (J od), .int (J fi), .int (J la), .int (J 0), .ref (y + 7), .ref (y + 8), .ref (y + 9), .ref (y + 10)] H1 := hOn
  clear hOn
  refine g_aload_n (pc := 5) (pl := 0) X dX9_finds_5 rfl ?_
  refine g_bipush (pc := 6) X dX9_finds_6 (by decide +kernel) ?_
  refine g_putf (pc := 8) X zW_X9_finds_75 hO (by omega) rfl rfl rfl dX9_finds_8 (fun H2 hOn hf2 => ?_)
  replace hNw := hNw.fr hf2 (by omega)
  replace hO : Ob D y 9 [.ref (y + 1), .ref (y + 2), .int (J kp), .ref (y + 3), .ref (y + 4), .ref (y + 5), .int (J pd), .int (J at'), .ref (y + 6), .int (J od), .int (J (-6)), .int (J la), .int (J 0), .ref (y + 7), .ref (y + 8), .ref (y + 9), .ref (y + 10)] H2 := hOn
  clear hOn
  refine g_aload_n (pc := 11) (pl := 0) X dX9_finds_11 rfl ?_
  refine g_bipush (pc := 12) X dX9_finds_12 (by decide +kernel) ?_
  refine g_putf (pc := 14) X zW_X9_finds_78 hO (by omega) rfl rfl rfl dX9_finds_14 (fun H3 hOn hf3 => ?_)
  replace hNw := hNw.fr hf3 (by omega)
  replace hO : Ob D y 9 [.ref (y + 1), .ref (y + 2), .int (J kp), .ref (y + 3), .ref (y + 4), .ref (y + 5), .int (J pd), .int (J at'), .ref (y + 6), .int (J od), .int (J (-6)), .int (J (-6)), .int (J 0), .ref (y + 7), .ref (y + 8), .ref (y + 9), .ref (y + 10)] H3 := hOn
  clear hOn
  refine g_iconst (pc := 17) X dX9_finds_17 ?_
  refine g_istore_n (pc := 18) (lv' := [(2, _), (0, _), (1, _)]) X dX9_finds_18 (by decide) rfl ?_
  refine g_iconst (pc := 19) X dX9_finds_19 ?_
  refine g_istore_n (pc := 20) (lv' := [(3, _), (2, _), (0, _), (1, _)]) X dX9_finds_20 (by decide) rfl ?_
  refine g_iconst (pc := 21) X dX9_finds_21 ?_
  refine g_istore (pc := 22) (lv' := [(4, _), (3, _), (2, _), (0, _), (1, _)]) X dX9_finds_22 (by decide) rfl ?_
  have hL24 : ∀ (fu : Nat) (k : Nat) (ki bm rn la1 pc1 : Int) (Hx : Heap), (f 0).toNat - k < fu → (ki = (k : Int)) → ((k : Int) ≤ f 0) → (bm = scM (ownb (OW f) i) k) → (rn = scR (ownb (OW f) i) k) → (la1 = scE (ownb (OW f) i) k) → (pc1 = scP (ownb (OW f) i) k) → (MoO D y kp pd at' od (-6) la1 pc1 Hx) → (NwAt D y f Hx) → (Fr (Iv y (y + 1)) 0 H Hx) → G K 0 0 Hx 24 [(0, .ref y), (1, .int (J i)), (2, .int (J bm)), (3, .int (J rn)), (4, .int (J ki))] [] := by
    intro fu
    induction fu with
    | zero => intro k ki bm rn la1 pc1 Hx hm; exact absurd hm (Nat.not_lt_zero _)
    | succ fu ih24 =>
      intro k ki bm rn la1 pc1 Hx hm he h1 hbm hrn hla hpc hO hNw h3
      subst he
      have hsc := sc_bd (ownb (OW f) i) k
      refine g_iload (pc := 24) (pl := 4) X dX9_finds_24 rfl ?_
      refine g_aload_n (pc := 26) (pl := 0) X dX9_finds_26 rfl ?_
      refine g_getf (pc := 27) X zF_X9_finds_7 hO rfl dX9_finds_27 ?_
      refine g_iconst (pc := 30) X dX9_finds_30 ?_
      refine g_iaload (pc := 31) X hNw (by omega) (by omega) (by omega) dX9_finds_31 ?_
      refine g_icmp_ge (pc := 32) X 91 dX9_finds_32 (by decide) (by omega) (by omega) (fun c32 => ?_) (fun c32 => ?_)
      · skip
        refine g_aload_n (pc := 91) (pl := 0) X dX9_finds_91 rfl ?_
        refine g_iload_n (pc := 92) (pl := 2) X dX9_finds_92 rfl ?_
        refine g_if_ne (pc := 93) X 101 dX9_finds_93 (by decide) (by omega) (fun c93 => ?_) (fun c93 => ?_)
        · skip
          refine g_aload_n (pc := 101) (pl := 0) X dX9_finds_101 rfl ?_
          refine g_getf (pc := 102) X zF_X9_finds_78 hO rfl dX9_finds_102 ?_
          refine g_iload_n (pc := 105) (pl := 2) X dX9_finds_105 rfl ?_
          refine g_isub (pc := 106) X dX9_finds_106 ?_
          refine g_iconst (pc := 107) X dX9_finds_107 ?_
          refine g_iadd (pc := 108) X dX9_finds_108 ?_
          refine g_putf (pc := 109) X zW_X9_finds_75 hO (by omega) rfl rfl rfl dX9_finds_109 (fun H4 hOn hf4 => ?_)
          replace hNw := hNw.fr hf4 (by omega)
          replace hO : Ob D y 9 [.ref (y + 1), .ref (y + 2), .int (J kp), .ref (y + 3), .ref (y + 4), .ref (y + 5), .int (J pd), .int (J at'), .ref (y + 6), .int (J od), .int (J ((la1 - bm) + 1)), .int (J la1), .int (J pc1), .ref (y + 7), .ref (y + 8), .ref (y + 9), .ref (y + 10)] H4 := hOn
          clear hOn
          refine g_vret (pc := 112) X R hH dX9_finds_112 ?_
          have ek : (f 0).toNat = k := by omega
          have eF : ntF f i = if scM (ownb (OW f) i) k = 0 then -6 else scE (ownb (OW f) i) k - scM (ownb (OW f) i) k + 1 := by unfold ntF; rw [ek]; rfl
          have eE : ntE f i = scE (ownb (OW f) i) k := by unfold ntE; rw [ek]
          have eP : ntP f i = scP (ownb (OW f) i) k := by unfold ntP; rw [ek]
          rw [eF, eE, eP, ← hbm, ← hla, ← hpc]
          first
          | (rw [if_pos (by omega)]; exact ⟨hO, hNw, (Fr.trans (h3.wide (by omega) (by omega)) (hf4.wide (by omega) (by omega)))⟩)
          | (rw [if_neg (by omega)]; exact ⟨hO, hNw, (Fr.trans (h3.wide (by omega) (by omega)) (hf4.wide (by omega) (by omega)))⟩)
        · skip
          refine g_bipush (pc := 96) X dX9_finds_96 (by decide +kernel) ?_
          refine g_goto (pc := 98) X 109 dX9_finds_98 (by decide) ?_
          refine g_putf (pc := 109) X zW_X9_finds_75 hO (by omega) rfl rfl rfl dX9_finds_109 (fun H4 hOn hf4 => ?_)
          replace hNw := hNw.fr hf4 (by omega)
          replace hO : Ob D y 9 [.ref (y + 1), .ref (y + 2), .int (J kp), .ref (y + 3), .ref (y + 4), .ref (y + 5), .int (J pd), .int (J at'), .ref (y + 6), .int (J od), .int (J (-6)), .int (J la1), .int (J pc1), .ref (y + 7), .ref (y + 8), .ref (y + 9), .ref (y + 10)] H4 := hOn
          clear hOn
          refine g_vret (pc := 112) X R hH dX9_finds_112 ?_
          have ek : (f 0).toNat = k := by omega
          have eF : ntF f i = if scM (ownb (OW f) i) k = 0 then -6 else scE (ownb (OW f) i) k - scM (ownb (OW f) i) k + 1 := by unfold ntF; rw [ek]; rfl
          have eE : ntE f i = scE (ownb (OW f) i) k := by unfold ntE; rw [ek]
          have eP : ntP f i = scP (ownb (OW f) i) k := by unfold ntP; rw [ek]
          rw [eF, eE, eP, ← hbm, ← hla, ← hpc]
          first
          | (rw [if_pos (by omega)]; exact ⟨hO, hNw, (Fr.trans (h3.wide (by omega) (by omega)) (hf4.wide (by omega) (by omega)))⟩)
          | (rw [if_neg (by omega)]; exact ⟨hO, hNw, (Fr.trans (h3.wide (by omega) (by omega)) (hf4.wide (by omega) (by omega)))⟩)
      · skip
        refine g_aload_n (pc := 35) (pl := 0) X dX9_finds_35 rfl ?_
        refine g_iload (pc := 36) (pl := 4) X dX9_finds_36 rfl ?_
        refine g_iload_n (pc := 38) (pl := 1) X dX9_finds_38 rfl ?_
        refine gVi (pc := 39) (n2 := 0) (k2 := 0) X cs_X9_finds_60 (c_X9_isOf (zl K) D base y kp pd at' od (-6) la1 pc1 f (k : Int) i hq hI (by omega) (by omega)) rfl hO (by omega) ⟨hO, hNw⟩ rfl ⟨Nat.le_of_ble_eq_true rfl, Nat.le_of_ble_eq_true rfl⟩ dX9_finds_39 (Nat.le_of_ble_eq_true rfl) rfl rfl (fun v39 H4 hp39 hs39 => ?_)
        obtain ⟨rfl, rfl⟩ := hp39
        refine g_if_eq (pc := 42) X 51 dX9_finds_42 (by decide) (zbr _) (fun c42 => ?_) (fun c42 => ?_)
        · skip
          replace c42 := zb0 c42
          refine g_iconst (pc := 51) X dX9_finds_51 ?_
          refine g_istore_n (pc := 52) (lv' := [(3, _), (0, _), (1, _), (2, _), (4, _)]) X dX9_finds_52 (by decide) rfl ?_
          refine g_aload_n (pc := 53) (pl := 1) X dX9_finds_53 rfl ?_
          refine g_dup (pc := 54) X dX9_finds_54 rfl ?_
          refine g_getf (pc := 55) X zF_X9_finds_72 hO rfl dX9_finds_55 ?_
          refine g_iload_n (pc := 58) (pl := 0) X dX9_finds_58 rfl ?_
          refine g_iconst (pc := 59) X dX9_finds_59 ?_
          refine g_icmp_ne (pc := 60) X 67 dX9_finds_60 (by decide) (by omega) (by omega) (fun c60 => ?_) (fun c60 => ?_)
          · skip
            refine g_iconst (pc := 67) X dX9_finds_67 ?_
            refine g_iadd (pc := 68) X dX9_finds_68 ?_
            refine g_putf (pc := 69) X zW_X9_finds_72 hO (by omega) rfl rfl rfl dX9_finds_69 (fun H4 hOn hf4 => ?_)
            replace hNw := hNw.fr hf4 (by omega)
            replace hO : Ob D y 9 [.ref (y + 1), .ref (y + 2), .int (J kp), .ref (y + 3), .ref (y + 4), .ref (y + 5), .int (J pd), .int (J at'), .ref (y + 6), .int (J od), .int (J (-6)), .int (J la1), .int (J (pc1 + 0)), .ref (y + 7), .ref (y + 8), .ref (y + 9), .ref (y + 10)] H4 := hOn
            clear hOn
            refine g_iload_n (pc := 72) (pl := 0) X dX9_finds_72 rfl ?_
            refine g_iload_n (pc := 73) (pl := 3) X dX9_finds_73 rfl ?_
            refine g_icmp_le (pc := 74) X 85 dX9_finds_74 (by decide) (by omega) (by omega) (fun c74 => ?_) (fun c74 => ?_)
            · skip
              refine g_iinc (pc := 85) (pl := 4) (x := (k : Int)) (lv' := [(4, _), (3, _), (0, _), (1, _), (2, _)]) X dX9_finds_85 rfl (by decide) rfl ?_
              refine g_goto (pc := 88) X 24 dX9_finds_88 (by decide) ?_
              refine G.pick [2, 3, 4, 1, 0] (lv' := [(0, _), (1, _), (2, _), (3, _), (4, _)]) rfl ?_
              have q := sc_no (o := (ownb (OW f) i)) (p := k) (fun z => c42 (of_decide_eq_true z))
              obtain ⟨q1, -, q3, q4, q5⟩ := q
              exact ih24 (k + 1) _ _ _ _ _ H4 (by omega) (by omega) (by omega) (by rw [q4]; first | omega | (split <;> omega)) (by omega) (by rw [q5]; first | omega | (split <;> omega)) (by rw [q1]; first | omega | (split <;> omega)) hO hNw (Fr.trans (h3.wide (by omega) (by omega)) (hf4.wide (by omega) (by omega)))
            · skip
              refine g_iload_n (pc := 77) (pl := 0) X dX9_finds_77 rfl ?_
              refine g_istore_n (pc := 78) (lv' := [(2, _), (3, _), (0, _), (1, _), (4, _)]) X dX9_finds_78 (by decide) rfl ?_
              refine g_aload_n (pc := 79) (pl := 2) X dX9_finds_79 rfl ?_
              refine g_iload (pc := 80) (pl := 4) X dX9_finds_80 rfl ?_
              refine g_putf (pc := 82) X zW_X9_finds_78 hO (by omega) rfl rfl rfl dX9_finds_82 (fun H5 hOn hf5 => ?_)
              replace hNw := hNw.fr hf5 (by omega)
              replace hO : Ob D y 9 [.ref (y + 1), .ref (y + 2), .int (J kp), .ref (y + 3), .ref (y + 4), .ref (y + 5), .int (J pd), .int (J at'), .ref (y + 6), .int (J od), .int (J (-6)), .int (J (k : Int)), .int (J (pc1 + 0)), .ref (y + 7), .ref (y + 8), .ref (y + 9), .ref (y + 10)] H5 := hOn
              clear hOn
              refine g_iinc (pc := 85) (pl := 4) (x := (k : Int)) (lv' := [(4, _), (2, _), (3, _), (0, _), (1, _)]) X dX9_finds_85 rfl (by decide) rfl ?_
              refine g_goto (pc := 88) X 24 dX9_finds_88 (by decide) ?_
              refine G.pick [3, 4, 1, 2, 0] (lv' := [(0, _), (1, _), (2, _), (3, _), (4, _)]) rfl ?_
              have q := sc_no (o := (ownb (OW f) i)) (p := k) (fun z => c42 (of_decide_eq_true z))
              obtain ⟨q1, -, q3, q4, q5⟩ := q
              exact ih24 (k + 1) _ _ _ _ _ H5 (by omega) (by omega) (by omega) (by rw [q4]; first | omega | (split <;> omega)) (by omega) (by rw [q5]; first | omega | (split <;> omega)) (by rw [q1]; first | omega | (split <;> omega)) hO hNw (Fr.trans (h3.wide (by omega) (by omega)) (Fr.trans (hf4.wide (by omega) (by omega)) (hf5.wide (by omega) (by omega))))
          · skip
            refine g_iconst (pc := 63) X dX9_finds_63 ?_
            refine g_goto (pc := 64) X 68 dX9_finds_64 (by decide) ?_
            refine g_iadd (pc := 68) X dX9_finds_68 ?_
            refine g_putf (pc := 69) X zW_X9_finds_72 hO (by omega) rfl rfl rfl dX9_finds_69 (fun H4 hOn hf4 => ?_)
            replace hNw := hNw.fr hf4 (by omega)
            replace hO : Ob D y 9 [.ref (y + 1), .ref (y + 2), .int (J kp), .ref (y + 3), .ref (y + 4), .ref (y + 5), .int (J pd), .int (J at'), .ref (y + 6), .int (J od), .int (J (-6)), .int (J la1), .int (J (pc1 + 1)), .ref (y + 7), .ref (y + 8), .ref (y + 9), .ref (y + 10)] H4 := hOn
            clear hOn
            refine g_iload_n (pc := 72) (pl := 0) X dX9_finds_72 rfl ?_
            refine g_iload_n (pc := 73) (pl := 3) X dX9_finds_73 rfl ?_
            refine g_icmp_le (pc := 74) X 85 dX9_finds_74 (by decide) (by omega) (by omega) (fun c74 => ?_) (fun c74 => ?_)
            · skip
              refine g_iinc (pc := 85) (pl := 4) (x := (k : Int)) (lv' := [(4, _), (3, _), (0, _), (1, _), (2, _)]) X dX9_finds_85 rfl (by decide) rfl ?_
              refine g_goto (pc := 88) X 24 dX9_finds_88 (by decide) ?_
              refine G.pick [2, 3, 4, 1, 0] (lv' := [(0, _), (1, _), (2, _), (3, _), (4, _)]) rfl ?_
              have q := sc_no (o := (ownb (OW f) i)) (p := k) (fun z => c42 (of_decide_eq_true z))
              obtain ⟨q1, -, q3, q4, q5⟩ := q
              exact ih24 (k + 1) _ _ _ _ _ H4 (by omega) (by omega) (by omega) (by rw [q4]; first | omega | (split <;> omega)) (by omega) (by rw [q5]; first | omega | (split <;> omega)) (by rw [q1]; first | omega | (split <;> omega)) hO hNw (Fr.trans (h3.wide (by omega) (by omega)) (hf4.wide (by omega) (by omega)))
            · skip
              refine g_iload_n (pc := 77) (pl := 0) X dX9_finds_77 rfl ?_
              refine g_istore_n (pc := 78) (lv' := [(2, _), (3, _), (0, _), (1, _), (4, _)]) X dX9_finds_78 (by decide) rfl ?_
              refine g_aload_n (pc := 79) (pl := 2) X dX9_finds_79 rfl ?_
              refine g_iload (pc := 80) (pl := 4) X dX9_finds_80 rfl ?_
              refine g_putf (pc := 82) X zW_X9_finds_78 hO (by omega) rfl rfl rfl dX9_finds_82 (fun H5 hOn hf5 => ?_)
              replace hNw := hNw.fr hf5 (by omega)
              replace hO : Ob D y 9 [.ref (y + 1), .ref (y + 2), .int (J kp), .ref (y + 3), .ref (y + 4), .ref (y + 5), .int (J pd), .int (J at'), .ref (y + 6), .int (J od), .int (J (-6)), .int (J (k : Int)), .int (J (pc1 + 1)), .ref (y + 7), .ref (y + 8), .ref (y + 9), .ref (y + 10)] H5 := hOn
              clear hOn
              refine g_iinc (pc := 85) (pl := 4) (x := (k : Int)) (lv' := [(4, _), (2, _), (3, _), (0, _), (1, _)]) X dX9_finds_85 rfl (by decide) rfl ?_
              refine g_goto (pc := 88) X 24 dX9_finds_88 (by decide) ?_
              refine G.pick [3, 4, 1, 2, 0] (lv' := [(0, _), (1, _), (2, _), (3, _), (4, _)]) rfl ?_
              have q := sc_no (o := (ownb (OW f) i)) (p := k) (fun z => c42 (of_decide_eq_true z))
              obtain ⟨q1, -, q3, q4, q5⟩ := q
              exact ih24 (k + 1) _ _ _ _ _ H5 (by omega) (by omega) (by omega) (by rw [q4]; first | omega | (split <;> omega)) (by omega) (by rw [q5]; first | omega | (split <;> omega)) (by rw [q1]; first | omega | (split <;> omega)) hO hNw (Fr.trans (h3.wide (by omega) (by omega)) (Fr.trans (hf4.wide (by omega) (by omega)) (hf5.wide (by omega) (by omega))))
        · skip
          replace c42 := zb1 c42
          refine g_iload_n (pc := 45) (pl := 3) X dX9_finds_45 rfl ?_
          refine g_iconst (pc := 46) X dX9_finds_46 ?_
          refine g_iadd (pc := 47) X dX9_finds_47 ?_
          refine g_goto (pc := 48) X 52 dX9_finds_48 (by decide) ?_
          refine g_istore_n (pc := 52) (lv' := [(3, _), (0, _), (1, _), (2, _), (4, _)]) X dX9_finds_52 (by decide) rfl ?_
          refine g_aload_n (pc := 53) (pl := 1) X dX9_finds_53 rfl ?_
          refine g_dup (pc := 54) X dX9_finds_54 rfl ?_
          refine g_getf (pc := 55) X zF_X9_finds_72 hO rfl dX9_finds_55 ?_
          refine g_iload_n (pc := 58) (pl := 0) X dX9_finds_58 rfl ?_
          refine g_iconst (pc := 59) X dX9_finds_59 ?_
          refine g_icmp_ne (pc := 60) X 67 dX9_finds_60 (by decide) (by omega) (by omega) (fun c60 => ?_) (fun c60 => ?_)
          · skip
            refine g_iconst (pc := 67) X dX9_finds_67 ?_
            refine g_iadd (pc := 68) X dX9_finds_68 ?_
            refine g_putf (pc := 69) X zW_X9_finds_72 hO (by omega) rfl rfl rfl dX9_finds_69 (fun H4 hOn hf4 => ?_)
            replace hNw := hNw.fr hf4 (by omega)
            replace hO : Ob D y 9 [.ref (y + 1), .ref (y + 2), .int (J kp), .ref (y + 3), .ref (y + 4), .ref (y + 5), .int (J pd), .int (J at'), .ref (y + 6), .int (J od), .int (J (-6)), .int (J la1), .int (J (pc1 + 0)), .ref (y + 7), .ref (y + 8), .ref (y + 9), .ref (y + 10)] H4 := hOn
            clear hOn
            refine g_iload_n (pc := 72) (pl := 0) X dX9_finds_72 rfl ?_
            refine g_iload_n (pc := 73) (pl := 3) X dX9_finds_73 rfl ?_
            refine g_icmp_le (pc := 74) X 85 dX9_finds_74 (by decide) (by omega) (by omega) (fun c74 => ?_) (fun c74 => ?_)
            · skip
              refine g_iinc (pc := 85) (pl := 4) (x := (k : Int)) (lv' := [(4, _), (3, _), (0, _), (1, _), (2, _)]) X dX9_finds_85 rfl (by decide) rfl ?_
              refine g_goto (pc := 88) X 24 dX9_finds_88 (by decide) ?_
              refine G.pick [2, 3, 4, 1, 0] (lv' := [(0, _), (1, _), (2, _), (3, _), (4, _)]) rfl ?_
              have q := sc_yes (o := (ownb (OW f) i)) (p := k) (decide_eq_true c42)
              obtain ⟨q1, -, q3, q4, q5⟩ := q
              exact ih24 (k + 1) _ _ _ _ _ H4 (by omega) (by omega) (by omega) (by rw [q4]; first | omega | (split <;> omega)) (by omega) (by rw [q5]; first | omega | (split <;> omega)) (by rw [q1]; first | omega | (split <;> omega)) hO hNw (Fr.trans (h3.wide (by omega) (by omega)) (hf4.wide (by omega) (by omega)))
            · skip
              refine g_iload_n (pc := 77) (pl := 0) X dX9_finds_77 rfl ?_
              refine g_istore_n (pc := 78) (lv' := [(2, _), (3, _), (0, _), (1, _), (4, _)]) X dX9_finds_78 (by decide) rfl ?_
              refine g_aload_n (pc := 79) (pl := 2) X dX9_finds_79 rfl ?_
              refine g_iload (pc := 80) (pl := 4) X dX9_finds_80 rfl ?_
              refine g_putf (pc := 82) X zW_X9_finds_78 hO (by omega) rfl rfl rfl dX9_finds_82 (fun H5 hOn hf5 => ?_)
              replace hNw := hNw.fr hf5 (by omega)
              replace hO : Ob D y 9 [.ref (y + 1), .ref (y + 2), .int (J kp), .ref (y + 3), .ref (y + 4), .ref (y + 5), .int (J pd), .int (J at'), .ref (y + 6), .int (J od), .int (J (-6)), .int (J (k : Int)), .int (J (pc1 + 0)), .ref (y + 7), .ref (y + 8), .ref (y + 9), .ref (y + 10)] H5 := hOn
              clear hOn
              refine g_iinc (pc := 85) (pl := 4) (x := (k : Int)) (lv' := [(4, _), (2, _), (3, _), (0, _), (1, _)]) X dX9_finds_85 rfl (by decide) rfl ?_
              refine g_goto (pc := 88) X 24 dX9_finds_88 (by decide) ?_
              refine G.pick [3, 4, 1, 2, 0] (lv' := [(0, _), (1, _), (2, _), (3, _), (4, _)]) rfl ?_
              have q := sc_yes (o := (ownb (OW f) i)) (p := k) (decide_eq_true c42)
              obtain ⟨q1, -, q3, q4, q5⟩ := q
              exact ih24 (k + 1) _ _ _ _ _ H5 (by omega) (by omega) (by omega) (by rw [q4]; first | omega | (split <;> omega)) (by omega) (by rw [q5]; first | omega | (split <;> omega)) (by rw [q1]; first | omega | (split <;> omega)) hO hNw (Fr.trans (h3.wide (by omega) (by omega)) (Fr.trans (hf4.wide (by omega) (by omega)) (hf5.wide (by omega) (by omega))))
          · skip
            refine g_iconst (pc := 63) X dX9_finds_63 ?_
            refine g_goto (pc := 64) X 68 dX9_finds_64 (by decide) ?_
            refine g_iadd (pc := 68) X dX9_finds_68 ?_
            refine g_putf (pc := 69) X zW_X9_finds_72 hO (by omega) rfl rfl rfl dX9_finds_69 (fun H4 hOn hf4 => ?_)
            replace hNw := hNw.fr hf4 (by omega)
            replace hO : Ob D y 9 [.ref (y + 1), .ref (y + 2), .int (J kp), .ref (y + 3), .ref (y + 4), .ref (y + 5), .int (J pd), .int (J at'), .ref (y + 6), .int (J od), .int (J (-6)), .int (J la1), .int (J (pc1 + 1)), .ref (y + 7), .ref (y + 8), .ref (y + 9), .ref (y + 10)] H4 := hOn
            clear hOn
            refine g_iload_n (pc := 72) (pl := 0) X dX9_finds_72 rfl ?_
            refine g_iload_n (pc := 73) (pl := 3) X dX9_finds_73 rfl ?_
            refine g_icmp_le (pc := 74) X 85 dX9_finds_74 (by decide) (by omega) (by omega) (fun c74 => ?_) (fun c74 => ?_)
            · skip
              refine g_iinc (pc := 85) (pl := 4) (x := (k : Int)) (lv' := [(4, _), (3, _), (0, _), (1, _), (2, _)]) X dX9_finds_85 rfl (by decide) rfl ?_
              refine g_goto (pc := 88) X 24 dX9_finds_88 (by decide) ?_
              refine G.pick [2, 3, 4, 1, 0] (lv' := [(0, _), (1, _), (2, _), (3, _), (4, _)]) rfl ?_
              have q := sc_yes (o := (ownb (OW f) i)) (p := k) (decide_eq_true c42)
              obtain ⟨q1, -, q3, q4, q5⟩ := q
              exact ih24 (k + 1) _ _ _ _ _ H4 (by omega) (by omega) (by omega) (by rw [q4]; first | omega | (split <;> omega)) (by omega) (by rw [q5]; first | omega | (split <;> omega)) (by rw [q1]; first | omega | (split <;> omega)) hO hNw (Fr.trans (h3.wide (by omega) (by omega)) (hf4.wide (by omega) (by omega)))
            · skip
              refine g_iload_n (pc := 77) (pl := 0) X dX9_finds_77 rfl ?_
              refine g_istore_n (pc := 78) (lv' := [(2, _), (3, _), (0, _), (1, _), (4, _)]) X dX9_finds_78 (by decide) rfl ?_
              refine g_aload_n (pc := 79) (pl := 2) X dX9_finds_79 rfl ?_
              refine g_iload (pc := 80) (pl := 4) X dX9_finds_80 rfl ?_
              refine g_putf (pc := 82) X zW_X9_finds_78 hO (by omega) rfl rfl rfl dX9_finds_82 (fun H5 hOn hf5 => ?_)
              replace hNw := hNw.fr hf5 (by omega)
              replace hO : Ob D y 9 [.ref (y + 1), .ref (y + 2), .int (J kp), .ref (y + 3), .ref (y + 4), .ref (y + 5), .int (J pd), .int (J at'), .ref (y + 6), .int (J od), .int (J (-6)), .int (J (k : Int)), .int (J (pc1 + 1)), .ref (y + 7), .ref (y + 8), .ref (y + 9), .ref (y + 10)] H5 := hOn
              clear hOn
              refine g_iinc (pc := 85) (pl := 4) (x := (k : Int)) (lv' := [(4, _), (2, _), (3, _), (0, _), (1, _)]) X dX9_finds_85 rfl (by decide) rfl ?_
              refine g_goto (pc := 88) X 24 dX9_finds_88 (by decide) ?_
              refine G.pick [3, 4, 1, 2, 0] (lv' := [(0, _), (1, _), (2, _), (3, _), (4, _)]) rfl ?_
              have q := sc_yes (o := (ownb (OW f) i)) (p := k) (decide_eq_true c42)
              obtain ⟨q1, -, q3, q4, q5⟩ := q
              exact ih24 (k + 1) _ _ _ _ _ H5 (by omega) (by omega) (by omega) (by rw [q4]; first | omega | (split <;> omega)) (by omega) (by rw [q5]; first | omega | (split <;> omega)) (by rw [q1]; first | omega | (split <;> omega)) hO hNw (Fr.trans (h3.wide (by omega) (by omega)) (Fr.trans (hf4.wide (by omega) (by omega)) (hf5.wide (by omega) (by omega))))
  refine G.pick [3, 4, 2, 1, 0] (lv' := [(0, _), (1, _), (2, _), (3, _), (4, _)]) rfl ?_
  exact hL24 _ 0 _ _ _ _ _ H3 (Nat.lt_succ_self _) rfl (by omega) rfl rfl rfl rfl hO hNw (Fr.trans (hf1.wide (by omega) (by omega)) (Fr.trans (hf2.wide (by omega) (by omega)) (hf3.wide (by omega) (by omega))))

/-- the model's object where only what is kept and padded counts -/
def MoE (D : zD) (y : Nat) (kp pd : Int) (H : Heap) : Prop := ∃ at' od fi la pc : Int, MoO D y kp pd at' od fi la pc H
theorem MoE.fr {D : zD} {y a b d : Nat} {kp pd : Int} {H H' : Heap} (h : MoE D y kp pd H) (f : Fr (Iv a b) d H H') (e : y < a ∨ b ≤ y) : MoE D y kp pd H' := by
  obtain ⟨p, q, r, s, t, h⟩ := h
  exact ⟨p, q, r, s, t, h.fr f e⟩

abbrev rm_X9_torn : Room := { frames := 2, cells := 0, slots := 0, locals := 46 }
theorem zF_X9_torn_7 : zF RX9 wsX9_torn 9 0 7 := ⟨RX9, TX9, 17, rfl, by decide +kernel, by decide, by decide +kernel⟩
theorem cs_X9_torn_81 : zCV RX9 wsX9_torn 81 9 yX9_finds wsX9_finds cX9_finds 5 none rm_X9_torn rm_X9_finds 1 := ⟨_, _, gX9_torn_X9_finds, rfl, ⟨by decide +kernel, by decide +kernel, by decide +kernel⟩, ⟨Nat.le_of_ble_eq_true rfl, Nat.le_of_ble_eq_true rfl⟩, rfl, rfl⟩
theorem zF_X9_torn_72 : zF RX9 wsX9_torn 9 12 72 := ⟨RX9, TX9, 17, rfl, by decide +kernel, by decide, by decide +kernel⟩
set_option maxRecDepth 100000 in
theorem c_X9_torn (l : Launch) (D : zD) (base : Nat) (y : Nat) (kp pd at' od fi la pc : Int) (f : Int → Int) (hq : base ≤ y) (hI : PInv f) : Ct l yX9_torn wsX9_torn rm_X9_torn D base [.ref y] (fun H => MoO D y kp pd at' od fi la pc H ∧ NwAt D y f H) (PI (fun H v H1 => ptd f = v ∧ MoE D y kp pd H1 ∧ NwAt D y f H1 ∧ Fr (Iv y (y + 1)) 0 H H1)) := by
  refine Ct.of (own := RX9) (cc := cX9_torn) (maxL := 3) (by decide +kernel) rfl (Nat.le_of_ble_eq_true rfl) rfl ?_
  intro K H X R hH hnm hP
  show G K 0 0 H 0 [(0, .ref y)] []
  obtain ⟨hO, hNw⟩ := hP
  have hnum := hI.nums
  refine g_iconst (pc := 0) X dX9_torn_0 ?_
  refine g_istore_n (pc := 1) (lv' := [(1, _), (0, _)]) X dX9_torn_1 (by decide) rfl ?_
  refine g_iconst (pc := 2) X dX9_torn_2 ?_
  refine g_istore_n (pc := 3) (lv' := [(2, _), (1, _), (0, _)]) X dX9_torn_3 (by decide) rfl ?_
  have hL4 : ∀ (fu : Nat) (k : Nat) (ki c fi1 la1 pc1 : Int) (Hx : Heap), (f 1).toNat - k < fu → (ki = (k : Int)) → ((k : Int) ≤ f 1) → (c = cnt (fun n => decide (1 < ntP f n)) k) → (MoO D y kp pd at' od fi1 la1 pc1 Hx) → (NwAt D y f Hx) → (Fr (Iv y (y + 1)) 0 H Hx) → G K 0 0 Hx 4 [(0, .ref y), (1, .int (J c)), (2, .int (J ki))] [] := by
    intro fu
    induction fu with
    | zero => intro k ki c fi1 la1 pc1 Hx hm; exact absurd hm (Nat.not_lt_zero _)
    | succ fu ih4 =>
      intro k ki c fi1 la1 pc1 Hx hm he h1 hc hO hNw h3
      subst he
      refine g_iload_n (pc := 4) (pl := 2) X dX9_torn_4 rfl ?_
      refine g_aload_n (pc := 5) (pl := 0) X dX9_torn_5 rfl ?_
      refine g_getf (pc := 6) X zF_X9_torn_7 hO rfl dX9_torn_6 ?_
      refine g_iconst (pc := 9) X dX9_torn_9 ?_
      refine g_iaload (pc := 10) X hNw (by omega) (by omega) (by omega) dX9_torn_10 ?_
      refine g_icmp_ge (pc := 11) X 41 dX9_torn_11 (by decide) (by omega) (by omega) (fun c11 => ?_) (fun c11 => ?_)
      · skip
        refine g_iload_n (pc := 41) (pl := 1) X dX9_torn_41 rfl ?_
        refine g_iret (pc := 42) X R hH dX9_torn_42 ?_
        have ek : (f 1).toNat = k := by omega
        exact ⟨by unfold ptd; rw [ek]; exact hc.symm, ⟨_, _, _, _, _, hO⟩, hNw, h3⟩
      · skip
        refine g_aload_n (pc := 14) (pl := 0) X dX9_torn_14 rfl ?_
        refine g_iload_n (pc := 15) (pl := 2) X dX9_torn_15 rfl ?_
        refine gVv (pc := 16) (n2 := 0) (k2 := 0) X cs_X9_torn_81 (c_X9_finds (zl K) D base y kp pd at' od fi1 la1 pc1 f (k : Int) hq hI (by omega)) rfl hO (by omega) ⟨hO, hNw⟩ rfl ⟨Nat.le_of_ble_eq_true rfl, Nat.le_of_ble_eq_true rfl⟩ dX9_torn_16 (Nat.le_of_ble_eq_true rfl) rfl rfl (fun H1 hp16 hs16 => ?_)
        obtain ⟨hOn, hNwn, hfq⟩ := hp16
        clear hO hNw
        have hO := hOn
        have hNw := hNwn
        clear hOn hNwn
        have hsb := nt_bd f (k : Int)
        refine g_iload_n (pc := 19) (pl := 1) X dX9_torn_19 rfl ?_
        refine g_aload_n (pc := 20) (pl := 0) X dX9_torn_20 rfl ?_
        refine g_getf (pc := 21) X zF_X9_torn_72 hO rfl dX9_torn_21 ?_
        refine g_iconst (pc := 24) X dX9_torn_24 ?_
        refine g_icmp_le (pc := 25) X 32 dX9_torn_25 (by decide) (by omega) (by omega) (fun c25 => ?_) (fun c25 => ?_)
        · skip
          refine g_iconst (pc := 32) X dX9_torn_32 ?_
          refine g_iadd (pc := 33) X dX9_torn_33 ?_
          refine g_istore_n (pc := 34) (lv' := [(1, _), (0, _), (2, _)]) X dX9_torn_34 (by decide) rfl ?_
          refine g_iinc (pc := 35) (pl := 2) (x := (k : Int)) (lv' := [(2, _), (1, _), (0, _)]) X dX9_torn_35 rfl (by decide) rfl ?_
          refine g_goto (pc := 38) X 4 dX9_torn_38 (by decide) ?_
          refine G.pick [2, 1, 0] (lv' := [(0, _), (1, _), (2, _)]) rfl ?_
          have q := cnt_no (P := fun n => decide (1 < ntP f n)) (n := k) (fun z => by have z2 := of_decide_eq_true z; omega)
          exact ih4 (k + 1) _ _ _ _ _ H1 (by omega) (by omega) (by omega) (by omega) hO hNw (Fr.trans (h3.wide (by omega) (by omega)) (hfq.wide (by omega) (by omega)))
        · skip
          refine g_iconst (pc := 28) X dX9_torn_28 ?_
          refine g_goto (pc := 29) X 33 dX9_torn_29 (by decide) ?_
          refine g_iadd (pc := 33) X dX9_torn_33 ?_
          refine g_istore_n (pc := 34) (lv' := [(1, _), (0, _), (2, _)]) X dX9_torn_34 (by decide) rfl ?_
          refine g_iinc (pc := 35) (pl := 2) (x := (k : Int)) (lv' := [(2, _), (1, _), (0, _)]) X dX9_torn_35 rfl (by decide) rfl ?_
          refine g_goto (pc := 38) X 4 dX9_torn_38 (by decide) ?_
          refine G.pick [2, 1, 0] (lv' := [(0, _), (1, _), (2, _)]) rfl ?_
          have q := cnt_yes (P := fun n => decide (1 < ntP f n)) (n := k) (decide_eq_true (by omega))
          exact ih4 (k + 1) _ _ _ _ _ H1 (by omega) (by omega) (by omega) (by omega) hO hNw (Fr.trans (h3.wide (by omega) (by omega)) (hfq.wide (by omega) (by omega)))
  refine G.pick [2, 1, 0] (lv' := [(0, _), (1, _), (2, _)]) rfl ?_
  exact hL4 _ 0 _ _ _ _ _ H (Nat.lt_succ_self _) rfl (by omega) rfl hO hNw (Fr.refl _ _)

abbrev rm_X9_isFor : Room := { frames := 1, cells := 0, slots := 0, locals := 22 }
theorem cs_X9_isFor_41 : zCJ RX9 wsX9_isFor 41 yX9_in wsX9_in cX9_in 3 (some .boolean) rm_X9_isFor rm_X9_in 3 := ⟨_, gX9_isFor_X9_in, rfl, ⟨by decide +kernel, by decide +kernel, by decide +kernel⟩, ⟨Nat.le_of_ble_eq_true rfl, Nat.le_of_ble_eq_true rfl⟩⟩
set_option maxRecDepth 100000 in
theorem c_X9_isFor (l : Launch) (D : zD) (base : Nat) (s v : Int) (hs : rg s) (hv : rg v) : Ct l yX9_isFor wsX9_isFor rm_X9_isFor D base [.int (J s), .int (J v)] (fun H => base ≤ H.size) (PI (fun H w H1 => H = H1 ∧ (if loS s ≤ v ∧ v ≤ hiS s then 1 else 0) = w)) := by
  refine Ct.of (own := RX9) (cc := cX9_isFor) (maxL := 2) (by decide +kernel) rfl (Nat.le_of_ble_eq_true rfl) rfl ?_
  intro K H X R hH hnm hP
  show G K 0 0 H 0 [(0, .int (J s)), (1, .int (J v))] []
  refine g_iload_n (pc := 0) (pl := 0) X dX9_isFor_0 rfl ?_
  refine g_if_ne (pc := 1) X 14 dX9_isFor_1 (by decide) (by omega) (fun c1 => ?_) (fun c1 => ?_)
  · skip
    refine g_iload_n (pc := 14) (pl := 0) X dX9_isFor_14 rfl ?_
    refine g_iconst (pc := 15) X dX9_isFor_15 ?_
    refine g_icmp_ne (pc := 16) X 29 dX9_isFor_16 (by decide) (by omega) (by omega) (fun c16 => ?_) (fun c16 => ?_)
    · skip
      refine g_iload_n (pc := 29) (pl := 1) X dX9_isFor_29 rfl ?_
      refine g_iconst (pc := 30) X dX9_isFor_30 ?_
      refine g_bipush (pc := 31) X dX9_isFor_31 (by decide +kernel) ?_
      refine gJi (pc := 33) (n2 := 0) (k2 := 0) X cs_X9_isFor_41 (c_X9_in (zl K) D base v 1 9 (by omega) (by omega) (by omega)) rfl hP trivial rfl ⟨Nat.le_of_ble_eq_true rfl, Nat.le_of_ble_eq_true rfl⟩ dX9_isFor_33 (Nat.le_of_ble_eq_true rfl) rfl rfl (fun v33 H1 hp33 hs33 => ?_)
      obtain ⟨rfl, rfl⟩ := hp33
      refine g_zret (pc := 36) X R hH (zbo _) dX9_isFor_36 ?_
      refine ⟨rfl, ?_⟩
      have e1 : (s = 0 → loS s = 0) ∧ (¬ s = 0 → loS s = 1) := ⟨fun z => if_pos z, fun z => if_neg z⟩
      have e2 : (s = 0 → hiS s = 8) ∧ (s = 1 → hiS s = 60) ∧ (¬ s = 0 → ¬ s = 1 → hiS s = 9) := ⟨fun z => if_pos z, fun z => (if_neg (by omega)).trans (if_pos z), fun z z2 => (if_neg z).trans (if_neg z2)⟩
      (repeat' split) <;> first | rfl | (exfalso; omega)
    · skip
      refine g_iload_n (pc := 19) (pl := 1) X dX9_isFor_19 rfl ?_
      refine g_iconst (pc := 20) X dX9_isFor_20 ?_
      refine g_bipush (pc := 21) X dX9_isFor_21 (by decide +kernel) ?_
      refine gJi (pc := 23) (n2 := 0) (k2 := 0) X cs_X9_isFor_41 (c_X9_in (zl K) D base v 1 60 (by omega) (by omega) (by omega)) rfl hP trivial rfl ⟨Nat.le_of_ble_eq_true rfl, Nat.le_of_ble_eq_true rfl⟩ dX9_isFor_23 (Nat.le_of_ble_eq_true rfl) rfl rfl (fun v23 H1 hp23 hs23 => ?_)
      obtain ⟨rfl, rfl⟩ := hp23
      refine g_goto (pc := 26) X 36 dX9_isFor_26 (by decide) ?_
      refine g_zret (pc := 36) X R hH (zbo _) dX9_isFor_36 ?_
      refine ⟨rfl, ?_⟩
      have e1 : (s = 0 → loS s = 0) ∧ (¬ s = 0 → loS s = 1) := ⟨fun z => if_pos z, fun z => if_neg z⟩
      have e2 : (s = 0 → hiS s = 8) ∧ (s = 1 → hiS s = 60) ∧ (¬ s = 0 → ¬ s = 1 → hiS s = 9) := ⟨fun z => if_pos z, fun z => (if_neg (by omega)).trans (if_pos z), fun z z2 => (if_neg z).trans (if_neg z2)⟩
      (repeat' split) <;> first | rfl | (exfalso; omega)
  · skip
    refine g_iload_n (pc := 4) (pl := 1) X dX9_isFor_4 rfl ?_
    refine g_iconst (pc := 5) X dX9_isFor_5 ?_
    refine g_bipush (pc := 6) X dX9_isFor_6 (by decide +kernel) ?_
    refine gJi (pc := 8) (n2 := 0) (k2 := 0) X cs_X9_isFor_41 (c_X9_in (zl K) D base v 0 8 (by omega) (by omega) (by omega)) rfl hP trivial rfl ⟨Nat.le_of_ble_eq_true rfl, Nat.le_of_ble_eq_true rfl⟩ dX9_isFor_8 (Nat.le_of_ble_eq_true rfl) rfl rfl (fun v8 H1 hp8 hs8 => ?_)
    obtain ⟨rfl, rfl⟩ := hp8
    refine g_goto (pc := 11) X 36 dX9_isFor_11 (by decide) ?_
    refine g_zret (pc := 36) X R hH (zbo _) dX9_isFor_36 ?_
    refine ⟨rfl, ?_⟩
    have e1 : (s = 0 → loS s = 0) ∧ (¬ s = 0 → loS s = 1) := ⟨fun z => if_pos z, fun z => if_neg z⟩
    have e2 : (s = 0 → hiS s = 8) ∧ (s = 1 → hiS s = 60) ∧ (¬ s = 0 → ¬ s = 1 → hiS s = 9) := ⟨fun z => if_pos z, fun z => (if_neg (by omega)).trans (if_pos z), fun z z2 => (if_neg z).trans (if_neg z2)⟩
    (repeat' split) <;> first | rfl | (exfalso; omega)

abbrev rm_X9_word : Room := { frames := 2, cells := 0, slots := 0, locals := 43 }
theorem cs_X9_word_140 : zCV RX9 wsX9_word 140 9 yX9_isNote wsX9_isNote cX9_isNote 2 (some .boolean) rm_X9_word rm_X9_isNote 1 := ⟨_, _, gX9_word_X9_isNote, rfl, ⟨by decide +kernel, by decide +kernel, by decide +kernel⟩, ⟨Nat.le_of_ble_eq_true rfl, Nat.le_of_ble_eq_true rfl⟩, rfl, rfl⟩
theorem cs_X9_word_64 : zCV RX9 wsX9_word 64 9 yX9_isReply wsX9_isReply cX9_isReply 2 (some .boolean) rm_X9_word rm_X9_isReply 1 := ⟨_, _, gX9_word_X9_isReply, rfl, ⟨by decide +kernel, by decide +kernel, by decide +kernel⟩, ⟨Nat.le_of_ble_eq_true rfl, Nat.le_of_ble_eq_true rfl⟩, rfl, rfl⟩
theorem cs_X9_word_45 : zCV RX9 wsX9_word 45 9 yX9_of0 wsX9_of0 cX9_of0 3 (some .int) rm_X9_word rm_X9_of0 2 := ⟨_, _, gX9_word_X9_of0, rfl, ⟨by decide +kernel, by decide +kernel, by decide +kernel⟩, ⟨Nat.le_of_ble_eq_true rfl, Nat.le_of_ble_eq_true rfl⟩, rfl, rfl⟩
theorem cs_X9_word_41 : zCJ RX9 wsX9_word 41 yX9_in wsX9_in cX9_in 3 (some .boolean) rm_X9_word rm_X9_in 3 := ⟨_, gX9_word_X9_in, rfl, ⟨by decide +kernel, by decide +kernel, by decide +kernel⟩, ⟨Nat.le_of_ble_eq_true rfl, Nat.le_of_ble_eq_true rfl⟩⟩
set_option maxRecDepth 100000 in
theorem c_X9_word (l : Launch) (D : zD) (base : Nat) (y : Nat) (kp pd at' od fi la pc : Int) (f : Int → Int) (k p : Int) (hq : base ≤ y) (hI : PInv f) (hk : rg k) (hp : rg p) : Ct l yX9_word wsX9_word rm_X9_word D base [.ref y, .int (J k), .int (J p)] (fun H => MoO D y kp pd at' od fi la pc H ∧ NwAt D y f H) (PI (fun H v H1 => H = H1 ∧ woR f k p = v)) := by
  refine Ct.of (own := RX9) (cc := cX9_word) (maxL := 3) (by decide +kernel) rfl (Nat.le_of_ble_eq_true rfl) rfl ?_
  intro K H X R hH hnm hP
  show G K 0 0 H 0 [(0, .ref y), (1, .int (J k)), (2, .int (J p))] []
  obtain ⟨hO, hNw⟩ := hP
  have hnum := hI.nums
  refine g_aload_n (pc := 0) (pl := 0) X dX9_word_0 rfl ?_
  refine g_iload_n (pc := 1) (pl := 1) X dX9_word_1 rfl ?_
  refine gVi (pc := 2) (n2 := 0) (k2 := 0) X cs_X9_word_140 (c_X9_isNote (zl K) D base y kp pd at' od fi la pc f k hq hI (by omega)) rfl hO (by omega) ⟨hO, hNw⟩ rfl ⟨Nat.le_of_ble_eq_true rfl, Nat.le_of_ble_eq_true rfl⟩ dX9_word_2 (Nat.le_of_ble_eq_true rfl) rfl rfl (fun v2 H1 hp2 hs2 => ?_)
  obtain ⟨rfl, rfl⟩ := hp2
  refine g_if_ne (pc := 5) X 10 dX9_word_5 (by decide) (zbr _) (fun c5 => ?_) (fun c5 => ?_)
  · skip
    replace c5 := zb1 c5
    refine g_aload_n (pc := 10) (pl := 0) X dX9_word_10 rfl ?_
    refine g_iload_n (pc := 11) (pl := 1) X dX9_word_11 rfl ?_
    refine gVi (pc := 12) (n2 := 0) (k2 := 0) X cs_X9_word_64 (c_X9_isReply (zl K) D base y kp pd at' od fi la pc f k hq hI (by omega)) rfl hO (by omega) ⟨hO, hNw⟩ rfl ⟨Nat.le_of_ble_eq_true rfl, Nat.le_of_ble_eq_true rfl⟩ dX9_word_12 (Nat.le_of_ble_eq_true rfl) rfl rfl (fun v12 H1 hp12 hs12 => ?_)
    obtain ⟨rfl, rfl⟩ := hp12
    refine g_if_eq (pc := 15) X 21 dX9_word_15 (by decide) (zbr _) (fun c15 => ?_) (fun c15 => ?_)
    · skip
      replace c15 := zb0 c15
      refine g_iload_n (pc := 21) (pl := 2) X dX9_word_21 rfl ?_
      refine g_iconst (pc := 22) X dX9_word_22 ?_
      refine g_aload_n (pc := 23) (pl := 0) X dX9_word_23 rfl ?_
      refine g_iload_n (pc := 24) (pl := 1) X dX9_word_24 rfl ?_
      refine g_iconst (pc := 25) X dX9_word_25 ?_
      have hnv := hI.nt (i := k) (by omega) (by omega) (Decidable.not_not.mp c15)
      refine gVi (pc := 26) (n2 := 0) (k2 := 0) X cs_X9_word_45 (c_X9_of0 (zl K) D base y kp pd at' od fi la pc f k 1 hq (by omega) (by omega)) rfl hO (by omega) ⟨hO, hNw⟩ rfl ⟨Nat.le_of_ble_eq_true rfl, Nat.le_of_ble_eq_true rfl⟩ dX9_word_26 (Nat.le_of_ble_eq_true rfl) rfl rfl (fun v26 H1 hp26 hs26 => ?_)
      obtain ⟨rfl, rfl⟩ := hp26
      rw [show f (125 + 80 * k + 1) = f (126 + 80 * k) from congrArg f (by omega)]
      refine g_iconst (pc := 29) X dX9_word_29 ?_
      refine g_isub (pc := 30) X dX9_word_30 ?_
      refine gJi (pc := 31) (n2 := 0) (k2 := 0) X cs_X9_word_41 (c_X9_in (zl K) D base p 0 (f (126 + 80 * k) - 1) (by omega) (by omega) (by omega)) rfl (by have := hO.lt; omega) trivial rfl ⟨Nat.le_of_ble_eq_true rfl, Nat.le_of_ble_eq_true rfl⟩ dX9_word_31 (Nat.le_of_ble_eq_true rfl) rfl rfl (fun v31 H1 hp31 hs31 => ?_)
      obtain ⟨rfl, rfl⟩ := hp31
      refine g_if_eq (pc := 34) X 48 dX9_word_34 (by decide) (zbr _) (fun c34 => ?_) (fun c34 => ?_)
      · skip
        replace c34 := zb0 c34
        refine g_iconst (pc := 48) X dX9_word_48 ?_
        refine g_iret (pc := 49) X R hH dX9_word_49 ?_
        exact ⟨rfl, (if_neg (fun z => z c5)).trans ((if_neg c15).trans (if_neg (by omega)))⟩
      · skip
        replace c34 := zb1 c34
        refine g_aload_n (pc := 37) (pl := 0) X dX9_word_37 rfl ?_
        refine g_iload_n (pc := 38) (pl := 1) X dX9_word_38 rfl ?_
        refine g_iconst (pc := 39) X dX9_word_39 ?_
        refine g_iload_n (pc := 40) (pl := 2) X dX9_word_40 rfl ?_
        refine g_iadd (pc := 41) X dX9_word_41 ?_
        refine gVi (pc := 42) (n2 := 0) (k2 := 0) X cs_X9_word_45 (c_X9_of0 (zl K) D base y kp pd at' od fi la pc f k (2 + p) hq (by omega) (by omega)) rfl hO (by omega) ⟨hO, hNw⟩ rfl ⟨Nat.le_of_ble_eq_true rfl, Nat.le_of_ble_eq_true rfl⟩ dX9_word_42 (Nat.le_of_ble_eq_true rfl) rfl rfl (fun v42 H1 hp42 hs42 => ?_)
        obtain ⟨rfl, rfl⟩ := hp42
        rw [show f (125 + 80 * k + (2 + p)) = f (127 + 80 * k + p) from congrArg f (by omega)]
        refine g_goto (pc := 45) X 49 dX9_word_45 (by decide) ?_
        refine g_iret (pc := 49) X R hH dX9_word_49 ?_
        exact ⟨rfl, (if_neg (fun z => z c5)).trans ((if_neg c15).trans (if_pos (by omega)))⟩
    · skip
      replace c15 := zb1 c15
      refine g_bipush (pc := 18) X dX9_word_18 (by decide +kernel) ?_
      refine g_iret (pc := 20) X R hH dX9_word_20 ?_
      exact ⟨rfl, (if_neg (fun z => z c5)).trans (if_pos c15)⟩
  · skip
    replace c5 := zb0 c5
    refine g_iconst (pc := 8) X dX9_word_8 ?_
    refine g_iret (pc := 9) X R hH dX9_word_9 ?_
    exact ⟨rfl, if_pos c5⟩

abbrev rm_X9_ofNote : Room := { frames := 4, cells := 0, slots := 0, locals := 89 }
theorem cs_X9_ofNote_81 : zCV RX9 wsX9_ofNote 81 9 yX9_finds wsX9_finds cX9_finds 5 none rm_X9_ofNote rm_X9_finds 1 := ⟨_, _, gX9_ofNote_X9_finds, rfl, ⟨by decide +kernel, by decide +kernel, by decide +kernel⟩, ⟨Nat.le_of_ble_eq_true rfl, Nat.le_of_ble_eq_true rfl⟩, rfl, rfl⟩
theorem cs_X9_ofNote_64 : zCV RX9 wsX9_ofNote 64 9 yX9_isReply wsX9_isReply cX9_isReply 2 (some .boolean) rm_X9_ofNote rm_X9_isReply 1 := ⟨_, _, gX9_ofNote_X9_isReply, rfl, ⟨by decide +kernel, by decide +kernel, by decide +kernel⟩, ⟨Nat.le_of_ble_eq_true rfl, Nat.le_of_ble_eq_true rfl⟩, rfl, rfl⟩
theorem zF_X9_ofNote_72 : zF RX9 wsX9_ofNote 9 12 72 := ⟨RX9, TX9, 17, rfl, by decide +kernel, by decide, by decide +kernel⟩
theorem cs_X9_ofNote_68 : zCV RX9 wsX9_ofNote 68 9 yX9_present wsX9_present cX9_present 4 (some .int) rm_X9_ofNote rm_X9_present 1 := ⟨_, _, gX9_ofNote_X9_present, rfl, ⟨by decide +kernel, by decide +kernel, by decide +kernel⟩, ⟨Nat.le_of_ble_eq_true rfl, Nat.le_of_ble_eq_true rfl⟩, rfl, rfl⟩
theorem cs_X9_ofNote_45 : zCV RX9 wsX9_ofNote 45 9 yX9_of0 wsX9_of0 cX9_of0 3 (some .int) rm_X9_ofNote rm_X9_of0 2 := ⟨_, _, gX9_ofNote_X9_of0, rfl, ⟨by decide +kernel, by decide +kernel, by decide +kernel⟩, ⟨Nat.le_of_ble_eq_true rfl, Nat.le_of_ble_eq_true rfl⟩, rfl, rfl⟩
theorem cs_X9_ofNote_170 : zCV RX9 wsX9_ofNote 170 9 yX9_rootOf wsX9_rootOf cX9_rootOf 5 (some .int) rm_X9_ofNote rm_X9_rootOf 2 := ⟨_, _, gX9_ofNote_X9_rootOf, rfl, ⟨by decide +kernel, by decide +kernel, by decide +kernel⟩, ⟨Nat.le_of_ble_eq_true rfl, Nat.le_of_ble_eq_true rfl⟩, rfl, rfl⟩
theorem cs_X9_ofNote_174 : zCV RX9 wsX9_ofNote 174 9 yX9_below wsX9_below cX9_below 4 (some .int) rm_X9_ofNote rm_X9_below 1 := ⟨_, _, gX9_ofNote_X9_below, rfl, ⟨by decide +kernel, by decide +kernel, by decide +kernel⟩, ⟨Nat.le_of_ble_eq_true rfl, Nat.le_of_ble_eq_true rfl⟩, rfl, rfl⟩
theorem zF_X9_ofNote_78 : zF RX9 wsX9_ofNote 9 11 78 := ⟨RX9, TX9, 17, rfl, by decide +kernel, by decide, by decide +kernel⟩
theorem zF_X9_ofNote_75 : zF RX9 wsX9_ofNote 9 10 75 := ⟨RX9, TX9, 17, rfl, by decide +kernel, by decide, by decide +kernel⟩
theorem cs_X9_ofNote_85 : zCV RX9 wsX9_ofNote 85 9 yX9_isOrphan wsX9_isOrphan cX9_isOrphan 2 (some .boolean) rm_X9_ofNote rm_X9_isOrphan 1 := ⟨_, _, gX9_ofNote_X9_isOrphan, rfl, ⟨by decide +kernel, by decide +kernel, by decide +kernel⟩, ⟨Nat.le_of_ble_eq_true rfl, Nat.le_of_ble_eq_true rfl⟩, rfl, rfl⟩
set_option maxRecDepth 100000 in
theorem c_X9_ofNote (l : Launch) (D : zD) (base : Nat) (y : Nat) (kp pd at' od fi la pc : Int) (f : Int → Int) (i e : Int) (hq : base ≤ y) (hI : PInv f) (hi : 0 ≤ i ∧ i < f 1) (he : 0 ≤ e ∧ e ≤ 8) : Ct l yX9_ofNote wsX9_ofNote rm_X9_ofNote D base [.ref y, .int (J i), .int (J e)] (fun H => MoO D y kp pd at' od fi la pc H ∧ NwAt D y f H) (PI (fun H v H1 => ofR f i e = v ∧ MoE D y kp pd H1 ∧ NwAt D y f H1 ∧ Fr (Iv y (y + 1)) 0 H H1)) := by
  refine Ct.of (own := RX9) (cc := cX9_ofNote) (maxL := 3) (by decide +kernel) rfl (Nat.le_of_ble_eq_true rfl) rfl ?_
  intro K H X R hH hnm hP
  show G K 0 0 H 0 [(0, .ref y), (1, .int (J i)), (2, .int (J e))] []
  obtain ⟨hO, hNw⟩ := hP
  have hnum := hI.nums
  refine g_iload_n (pc := 0) (pl := 2) X dX9_ofNote_0 rfl ?_
  refine g_if_ne (pc := 1) X 30 dX9_ofNote_1 (by decide) (by omega) (fun c1 => ?_) (fun c1 => ?_)
  · skip
    refine g_iload_n (pc := 30) (pl := 2) X dX9_ofNote_30 rfl ?_
    refine g_iconst (pc := 31) X dX9_ofNote_31 ?_
    refine g_icmp_ge (pc := 32) X 62 dX9_ofNote_32 (by decide) (by omega) (by omega) (fun c32 => ?_) (fun c32 => ?_)
    · skip
      refine g_iload_n (pc := 62) (pl := 2) X dX9_ofNote_62 rfl ?_
      refine g_iconst (pc := 63) X dX9_ofNote_63 ?_
      refine g_icmp_le (pc := 64) X 103 dX9_ofNote_64 (by decide) (by omega) (by omega) (fun c64 => ?_) (fun c64 => ?_)
      · skip
        refine g_aload_n (pc := 103) (pl := 0) X dX9_ofNote_103 rfl ?_
        refine g_iload_n (pc := 104) (pl := 1) X dX9_ofNote_104 rfl ?_
        refine gVv (pc := 105) (n2 := 0) (k2 := 0) X cs_X9_ofNote_81 (c_X9_finds (zl K) D base y kp pd at' od fi la pc f i hq hI (by omega)) rfl hO (by omega) ⟨hO, hNw⟩ rfl ⟨Nat.le_of_ble_eq_true rfl, Nat.le_of_ble_eq_true rfl⟩ dX9_ofNote_105 (Nat.le_of_ble_eq_true rfl) rfl rfl (fun H1 hp105 hs105 => ?_)
        obtain ⟨hOn, hNwn, hfq⟩ := hp105
        clear hO hNw
        have hO := hOn
        have hNw := hNwn
        clear hOn hNwn
        have hsb := nt_bd f i
        refine g_aload_n (pc := 108) (pl := 0) X dX9_ofNote_108 rfl ?_
        refine g_iload_n (pc := 109) (pl := 1) X dX9_ofNote_109 rfl ?_
        refine gVi (pc := 110) (n2 := 0) (k2 := 0) X cs_X9_ofNote_64 (c_X9_isReply (zl K) D base y kp pd at' od (ntF f i) (ntE f i) (ntP f i) f i hq hI (by omega)) rfl hO (by omega) ⟨hO, hNw⟩ rfl ⟨Nat.le_of_ble_eq_true rfl, Nat.le_of_ble_eq_true rfl⟩ dX9_ofNote_110 (Nat.le_of_ble_eq_true rfl) rfl rfl (fun v110 H2 hp110 hs110 => ?_)
        obtain ⟨rfl, rfl⟩ := hp110
        refine g_if_eq (pc := 113) X 121 dX9_ofNote_113 (by decide) (zbr _) (fun c113 => ?_) (fun c113 => ?_)
        · skip
          replace c113 := zb0 c113
          refine g_iload_n (pc := 121) (pl := 2) X dX9_ofNote_121 rfl ?_
          refine g_iconst (pc := 122) X dX9_ofNote_122 ?_
          refine g_icmp_ne (pc := 123) X 135 dX9_ofNote_123 (by decide) (by omega) (by omega) (fun c123 => ?_) (fun c123 => ?_)
          · skip
            refine g_iload_n (pc := 135) (pl := 2) X dX9_ofNote_135 rfl ?_
            refine g_iconst (pc := 136) X dX9_ofNote_136 ?_
            refine g_icmp_ne (pc := 137) X 148 dX9_ofNote_137 (by decide) (by omega) (by omega) (fun c137 => ?_) (fun c137 => ?_)
            · skip
              refine g_aload_n (pc := 148) (pl := 0) X dX9_ofNote_148 rfl ?_
              refine g_getf (pc := 149) X zF_X9_ofNote_72 hO rfl dX9_ofNote_149 ?_
              refine g_iret (pc := 152) X R hH dX9_ofNote_152 ?_
              exact ⟨(if_neg (fun z => z (show isN f i from hi))).trans ((if_neg (by omega)).trans ((if_neg (by omega)).trans ((if_neg (by omega)).trans ((if_neg (by omega)).trans ((if_neg (by omega)).trans ((if_pos (by omega)).trans (if_neg c113))))))), ⟨_, _, _, _, _, hO⟩, hNw, (hfq.wide (by omega) (by omega))⟩
            · skip
              refine g_aload_n (pc := 140) (pl := 0) X dX9_ofNote_140 rfl ?_
              refine g_iload_n (pc := 141) (pl := 1) X dX9_ofNote_141 rfl ?_
              refine gVi (pc := 142) (n2 := 0) (k2 := 0) X cs_X9_ofNote_68 (c_X9_present (zl K) D base y kp pd at' od (ntF f i) (ntE f i) (ntP f i) f i hq hI (by omega)) rfl hO (by omega) ⟨hO, hNw⟩ rfl ⟨Nat.le_of_ble_eq_true rfl, Nat.le_of_ble_eq_true rfl⟩ dX9_ofNote_142 (Nat.le_of_ble_eq_true rfl) rfl rfl (fun v142 H2 hp142 hs142 => ?_)
              obtain ⟨rfl, rfl⟩ := hp142
              refine g_goto (pc := 145) X 152 dX9_ofNote_145 (by decide) ?_
              refine g_iret (pc := 152) X R hH dX9_ofNote_152 ?_
              exact ⟨(if_neg (fun z => z (show isN f i from hi))).trans ((if_neg (by omega)).trans ((if_neg (by omega)).trans ((if_neg (by omega)).trans ((if_neg (by omega)).trans ((if_pos (by omega)).trans (if_neg c113)))))), ⟨_, _, _, _, _, hO⟩, hNw, (hfq.wide (by omega) (by omega))⟩
          · skip
            refine g_aload_n (pc := 126) (pl := 0) X dX9_ofNote_126 rfl ?_
            refine g_iload_n (pc := 127) (pl := 1) X dX9_ofNote_127 rfl ?_
            refine g_iconst (pc := 128) X dX9_ofNote_128 ?_
            refine gVi (pc := 129) (n2 := 0) (k2 := 0) X cs_X9_ofNote_45 (c_X9_of0 (zl K) D base y kp pd at' od (ntF f i) (ntE f i) (ntP f i) f i 1 hq (by omega) (by omega)) rfl hO (by omega) ⟨hO, hNw⟩ rfl ⟨Nat.le_of_ble_eq_true rfl, Nat.le_of_ble_eq_true rfl⟩ dX9_ofNote_129 (Nat.le_of_ble_eq_true rfl) rfl rfl (fun v129 H2 hp129 hs129 => ?_)
            obtain ⟨rfl, rfl⟩ := hp129
            rw [show f (125 + 80 * i + 1) = f (126 + 80 * i) from congrArg f (by omega)]
            refine g_goto (pc := 132) X 152 dX9_ofNote_132 (by decide) ?_
            refine g_iret (pc := 152) X R hH dX9_ofNote_152 ?_
            exact ⟨(if_neg (fun z => z (show isN f i from hi))).trans ((if_neg (by omega)).trans ((if_neg (by omega)).trans ((if_neg (by omega)).trans ((if_pos (by omega)).trans (if_neg c113))))), ⟨_, _, _, _, _, hO⟩, hNw, (hfq.wide (by omega) (by omega))⟩
        · skip
          replace c113 := zb1 c113
          refine g_bipush (pc := 116) X dX9_ofNote_116 (by decide +kernel) ?_
          refine g_goto (pc := 118) X 152 dX9_ofNote_118 (by decide) ?_
          refine g_iret (pc := 152) X R hH dX9_ofNote_152 ?_
          have h345 : e = 3 ∨ e = 4 ∨ e = 5 := by omega
          have eR : ofR f i e = -6 := by
            rcases h345 with z | z | z
            · exact (if_neg (fun z => z (show isN f i from hi))).trans ((if_neg (by omega)).trans ((if_neg (by omega)).trans ((if_neg (by omega)).trans ((if_pos (by omega)).trans (if_pos c113)))))
            · exact (if_neg (fun z => z (show isN f i from hi))).trans ((if_neg (by omega)).trans ((if_neg (by omega)).trans ((if_neg (by omega)).trans ((if_neg (by omega)).trans ((if_pos (by omega)).trans (if_pos c113))))))
            · exact (if_neg (fun z => z (show isN f i from hi))).trans ((if_neg (by omega)).trans ((if_neg (by omega)).trans ((if_neg (by omega)).trans ((if_neg (by omega)).trans ((if_neg (by omega)).trans ((if_pos (by omega)).trans (if_pos c113)))))))
          exact ⟨eR, ⟨_, _, _, _, _, hO⟩, hNw, (hfq.wide (by omega) (by omega))⟩
      · skip
        refine g_iload_n (pc := 67) (pl := 2) X dX9_ofNote_67 rfl ?_
        refine g_bipush (pc := 68) X dX9_ofNote_68 (by decide +kernel) ?_
        refine g_icmp_ne (pc := 70) X 82 dX9_ofNote_70 (by decide) (by omega) (by omega) (fun c70 => ?_) (fun c70 => ?_)
        · skip
          refine g_iload_n (pc := 82) (pl := 2) X dX9_ofNote_82 rfl ?_
          refine g_bipush (pc := 83) X dX9_ofNote_83 (by decide +kernel) ?_
          refine g_icmp_ne (pc := 85) X 96 dX9_ofNote_85 (by decide) (by omega) (by omega) (fun c85 => ?_) (fun c85 => ?_)
          · skip
            refine g_aload_n (pc := 96) (pl := 0) X dX9_ofNote_96 rfl ?_
            refine g_iload_n (pc := 97) (pl := 1) X dX9_ofNote_97 rfl ?_
            refine g_iconst (pc := 98) X dX9_ofNote_98 ?_
            refine gVi (pc := 99) (n2 := 0) (k2 := 0) X cs_X9_ofNote_170 (c_X9_rootOf (zl K) D base y kp pd at' od fi la pc f i 1 hq hI hi (by omega)) rfl hO (by omega) ⟨hO, hNw⟩ rfl ⟨Nat.le_of_ble_eq_true rfl, Nat.le_of_ble_eq_true rfl⟩ dX9_ofNote_99 (Nat.le_of_ble_eq_true rfl) rfl rfl (fun v99 H1 hp99 hs99 => ?_)
            obtain ⟨rfl, rfl⟩ := hp99
            rw [show (if (1 : Int) = 0 then rot f i else dpt f i) = dpt f i from rfl]
            obtain ⟨b1, b2, b3, b4, b5⟩ := dep_bd hI hi
            refine g_iret (pc := 102) X R hH dX9_ofNote_102 ?_
            exact ⟨(if_neg (fun z => z (show isN f i from hi))).trans ((if_neg (by omega)).trans ((if_neg (by omega)).trans ((if_neg (by omega)).trans ((if_neg (by omega)).trans ((if_neg (by omega)).trans ((if_neg (by omega)).trans ((if_neg (by omega)).trans ((if_neg (by omega)).trans (if_pos (by omega)))))))))), ⟨_, _, _, _, _, hO⟩, hNw, (Fr.refl _ _)⟩
          · skip
            refine g_aload_n (pc := 88) (pl := 0) X dX9_ofNote_88 rfl ?_
            refine g_iload_n (pc := 89) (pl := 1) X dX9_ofNote_89 rfl ?_
            refine gVi (pc := 90) (n2 := 0) (k2 := 0) X cs_X9_ofNote_174 (c_X9_below (zl K) D base y kp pd at' od fi la pc f i hq hI hi) rfl hO (by omega) ⟨hO, hNw⟩ rfl ⟨Nat.le_of_ble_eq_true rfl, Nat.le_of_ble_eq_true rfl⟩ dX9_ofNote_90 (Nat.le_of_ble_eq_true rfl) rfl rfl (fun v90 H1 hp90 hs90 => ?_)
            obtain ⟨rfl, rfl⟩ := hp90
            refine g_goto (pc := 93) X 102 dX9_ofNote_93 (by decide) ?_
            refine g_iret (pc := 102) X R hH dX9_ofNote_102 ?_
            exact ⟨(if_neg (fun z => z (show isN f i from hi))).trans ((if_neg (by omega)).trans ((if_neg (by omega)).trans ((if_neg (by omega)).trans ((if_neg (by omega)).trans ((if_neg (by omega)).trans ((if_neg (by omega)).trans ((if_neg (by omega)).trans (if_pos (by omega))))))))), ⟨_, _, _, _, _, hO⟩, hNw, (Fr.refl _ _)⟩
        · skip
          refine g_aload_n (pc := 73) (pl := 0) X dX9_ofNote_73 rfl ?_
          refine g_iload_n (pc := 74) (pl := 1) X dX9_ofNote_74 rfl ?_
          refine g_iconst (pc := 75) X dX9_ofNote_75 ?_
          refine gVi (pc := 76) (n2 := 0) (k2 := 0) X cs_X9_ofNote_45 (c_X9_of0 (zl K) D base y kp pd at' od fi la pc f i 0 hq (by omega) (by omega)) rfl hO (by omega) ⟨hO, hNw⟩ rfl ⟨Nat.le_of_ble_eq_true rfl, Nat.le_of_ble_eq_true rfl⟩ dX9_ofNote_76 (Nat.le_of_ble_eq_true rfl) rfl rfl (fun v76 H1 hp76 hs76 => ?_)
          obtain ⟨rfl, rfl⟩ := hp76
          rw [show f (125 + 80 * i + 0) = tgt f i by rw [Int.add_zero]]
          refine g_goto (pc := 79) X 102 dX9_ofNote_79 (by decide) ?_
          refine g_iret (pc := 102) X R hH dX9_ofNote_102 ?_
          exact ⟨(if_neg (fun z => z (show isN f i from hi))).trans ((if_neg (by omega)).trans ((if_neg (by omega)).trans ((if_neg (by omega)).trans ((if_neg (by omega)).trans ((if_neg (by omega)).trans ((if_neg (by omega)).trans (if_pos (by omega)))))))), ⟨_, _, _, _, _, hO⟩, hNw, (Fr.refl _ _)⟩
    · skip
      refine g_aload_n (pc := 35) (pl := 0) X dX9_ofNote_35 rfl ?_
      refine g_aload_n (pc := 36) (pl := 0) X dX9_ofNote_36 rfl ?_
      refine g_iload_n (pc := 37) (pl := 1) X dX9_ofNote_37 rfl ?_
      refine g_iconst (pc := 38) X dX9_ofNote_38 ?_
      refine gVi (pc := 39) (n2 := 0) (k2 := 0) X cs_X9_ofNote_170 (c_X9_rootOf (zl K) D base y kp pd at' od fi la pc f i 0 hq hI hi (by omega)) rfl hO (by omega) ⟨hO, hNw⟩ rfl ⟨Nat.le_of_ble_eq_true rfl, Nat.le_of_ble_eq_true rfl⟩ dX9_ofNote_39 (Nat.le_of_ble_eq_true rfl) rfl rfl (fun v39 H1 hp39 hs39 => ?_)
      obtain ⟨rfl, rfl⟩ := hp39
      rw [show (if (0 : Int) = 0 then rot f i else dpt f i) = rot f i from rfl]
      obtain ⟨b1, b2, b3, b4, b5⟩ := dep_bd hI hi
      refine gVv (pc := 42) (n2 := 0) (k2 := 0) X cs_X9_ofNote_81 (c_X9_finds (zl K) D base y kp pd at' od fi la pc f (rot f i) hq hI (by omega)) rfl hO (by omega) ⟨hO, hNw⟩ rfl ⟨Nat.le_of_ble_eq_true rfl, Nat.le_of_ble_eq_true rfl⟩ dX9_ofNote_42 (Nat.le_of_ble_eq_true rfl) rfl rfl (fun H1 hp42 hs42 => ?_)
      obtain ⟨hOn, hNwn, hfq⟩ := hp42
      clear hO hNw
      have hO := hOn
      have hNw := hNwn
      clear hOn hNwn
      have hsb := nt_bd f (rot f i)
      refine g_iload_n (pc := 45) (pl := 2) X dX9_ofNote_45 rfl ?_
      refine g_iconst (pc := 46) X dX9_ofNote_46 ?_
      refine g_icmp_ne (pc := 47) X 57 dX9_ofNote_47 (by decide) (by omega) (by omega) (fun c47 => ?_) (fun c47 => ?_)
      · skip
        refine g_aload_n (pc := 57) (pl := 0) X dX9_ofNote_57 rfl ?_
        refine g_getf (pc := 58) X zF_X9_ofNote_78 hO rfl dX9_ofNote_58 ?_
        refine g_iret (pc := 61) X R hH dX9_ofNote_61 ?_
        exact ⟨(if_neg (fun z => z (show isN f i from hi))).trans ((if_neg (by omega)).trans ((if_neg (by omega)).trans (if_pos (by omega)))), ⟨_, _, _, _, _, hO⟩, hNw, (hfq.wide (by omega) (by omega))⟩
      · skip
        refine g_aload_n (pc := 50) (pl := 0) X dX9_ofNote_50 rfl ?_
        refine g_getf (pc := 51) X zF_X9_ofNote_75 hO rfl dX9_ofNote_51 ?_
        refine g_goto (pc := 54) X 61 dX9_ofNote_54 (by decide) ?_
        refine g_iret (pc := 61) X R hH dX9_ofNote_61 ?_
        exact ⟨(if_neg (fun z => z (show isN f i from hi))).trans ((if_neg (by omega)).trans (if_pos (by omega))), ⟨_, _, _, _, _, hO⟩, hNw, (hfq.wide (by omega) (by omega))⟩
  · skip
    refine g_aload_n (pc := 4) (pl := 0) X dX9_ofNote_4 rfl ?_
    refine g_iload_n (pc := 5) (pl := 1) X dX9_ofNote_5 rfl ?_
    refine gVi (pc := 6) (n2 := 0) (k2 := 0) X cs_X9_ofNote_64 (c_X9_isReply (zl K) D base y kp pd at' od fi la pc f i hq hI (by omega)) rfl hO (by omega) ⟨hO, hNw⟩ rfl ⟨Nat.le_of_ble_eq_true rfl, Nat.le_of_ble_eq_true rfl⟩ dX9_ofNote_6 (Nat.le_of_ble_eq_true rfl) rfl rfl (fun v6 H1 hp6 hs6 => ?_)
    obtain ⟨rfl, rfl⟩ := hp6
    refine g_if_eq (pc := 9) X 16 dX9_ofNote_9 (by decide) (zbr _) (fun c9 => ?_) (fun c9 => ?_)
    · skip
      replace c9 := zb0 c9
      refine g_aload_n (pc := 16) (pl := 0) X dX9_ofNote_16 rfl ?_
      refine g_iload_n (pc := 17) (pl := 1) X dX9_ofNote_17 rfl ?_
      refine gVi (pc := 18) (n2 := 0) (k2 := 0) X cs_X9_ofNote_85 (c_X9_isOrphan (zl K) D base y kp pd at' od fi la pc f i hq hI hi) rfl hO (by omega) ⟨hO, hNw⟩ rfl ⟨Nat.le_of_ble_eq_true rfl, Nat.le_of_ble_eq_true rfl⟩ dX9_ofNote_18 (Nat.le_of_ble_eq_true rfl) rfl rfl (fun v18 H1 hp18 hs18 => ?_)
      obtain ⟨rfl, rfl⟩ := hp18
      refine g_if_eq (pc := 21) X 28 dX9_ofNote_21 (by decide) (zbr _) (fun c21 => ?_) (fun c21 => ?_)
      · skip
        replace c21 := zb0 c21
        refine g_iconst (pc := 28) X dX9_ofNote_28 ?_
        refine g_iret (pc := 29) X R hH dX9_ofNote_29 ?_
        have hst : stt f i = 0 := by have q : ¬ stt f i = 1 := c21; unfold stt at q ⊢; rw [if_neg c9] at q ⊢; split <;> first | rfl | (rename_i z; rw [if_neg z] at q; exact absurd rfl q)
        have eS : stt f i = 0 := hst
        exact ⟨(if_neg (fun z => z (show isN f i from hi))).trans ((if_pos (by omega)).trans eS), ⟨_, _, _, _, _, hO⟩, hNw, (Fr.refl _ _)⟩
      · skip
        replace c21 := zb1 c21
        refine g_iconst (pc := 24) X dX9_ofNote_24 ?_
        refine g_goto (pc := 25) X 29 dX9_ofNote_25 (by decide) ?_
        refine g_iret (pc := 29) X R hH dX9_ofNote_29 ?_
        exact ⟨(if_neg (fun z => z (show isN f i from hi))).trans ((if_pos (by omega)).trans c21), ⟨_, _, _, _, _, hO⟩, hNw, (Fr.refl _ _)⟩
    · skip
      replace c9 := zb1 c9
      refine g_iconst (pc := 12) X dX9_ofNote_12 ?_
      refine g_goto (pc := 13) X 29 dX9_ofNote_13 (by decide) ?_
      refine g_iret (pc := 29) X R hH dX9_ofNote_29 ?_
      exact ⟨(if_neg (fun z => z (show isN f i from hi))).trans ((if_pos (by omega)).trans (if_pos c9)), ⟨_, _, _, _, _, hO⟩, hNw, (Fr.refl _ _)⟩

abbrev rm_X9_of : Room := { frames := 5, cells := 0, slots := 0, locals := 111 }
theorem cs_X9_of_140 : zCV RX9 wsX9_of 140 9 yX9_isNote wsX9_isNote cX9_isNote 2 (some .boolean) rm_X9_of rm_X9_isNote 1 := ⟨_, _, gX9_of_X9_isNote, rfl, ⟨by decide +kernel, by decide +kernel, by decide +kernel⟩, ⟨Nat.le_of_ble_eq_true rfl, Nat.le_of_ble_eq_true rfl⟩, rfl, rfl⟩
theorem cs_X9_of_41 : zCJ RX9 wsX9_of 41 yX9_in wsX9_in cX9_in 3 (some .boolean) rm_X9_of rm_X9_in 3 := ⟨_, gX9_of_X9_in, rfl, ⟨by decide +kernel, by decide +kernel, by decide +kernel⟩, ⟨Nat.le_of_ble_eq_true rfl, Nat.le_of_ble_eq_true rfl⟩⟩
theorem cs_X9_of_177 : zCV RX9 wsX9_of 177 9 yX9_ofNote wsX9_ofNote cX9_ofNote 3 (some .int) rm_X9_of rm_X9_ofNote 2 := ⟨_, _, gX9_of_X9_ofNote, rfl, ⟨by decide +kernel, by decide +kernel, by decide +kernel⟩, ⟨Nat.le_of_ble_eq_true rfl, Nat.le_of_ble_eq_true rfl⟩, rfl, rfl⟩
set_option maxRecDepth 100000 in
theorem c_X9_of (l : Launch) (D : zD) (base : Nat) (y : Nat) (kp pd at' od fi la pc : Int) (f : Int → Int) (i e : Int) (hq : base ≤ y) (hI : PInv f) (hi : rg i) (he : rg e) : Ct l yX9_of wsX9_of rm_X9_of D base [.ref y, .int (J i), .int (J e)] (fun H => MoO D y kp pd at' od fi la pc H ∧ NwAt D y f H) (PI (fun H v H1 => ofR f i e = v ∧ MoE D y kp pd H1 ∧ NwAt D y f H1 ∧ Fr (Iv y (y + 1)) 0 H H1)) := by
  refine Ct.of (own := RX9) (cc := cX9_of) (maxL := 3) (by decide +kernel) rfl (Nat.le_of_ble_eq_true rfl) rfl ?_
  intro K H X R hH hnm hP
  show G K 0 0 H 0 [(0, .ref y), (1, .int (J i)), (2, .int (J e))] []
  obtain ⟨hO, hNw⟩ := hP
  have hnum := hI.nums
  refine g_aload_n (pc := 0) (pl := 0) X dX9_of_0 rfl ?_
  refine g_iload_n (pc := 1) (pl := 1) X dX9_of_1 rfl ?_
  refine gVi (pc := 2) (n2 := 0) (k2 := 0) X cs_X9_of_140 (c_X9_isNote (zl K) D base y kp pd at' od fi la pc f i hq hI (by omega)) rfl hO (by omega) ⟨hO, hNw⟩ rfl ⟨Nat.le_of_ble_eq_true rfl, Nat.le_of_ble_eq_true rfl⟩ dX9_of_2 (Nat.le_of_ble_eq_true rfl) rfl rfl (fun v2 H1 hp2 hs2 => ?_)
  obtain ⟨rfl, rfl⟩ := hp2
  refine g_if_ne (pc := 5) X 10 dX9_of_5 (by decide) (zbr _) (fun c5 => ?_) (fun c5 => ?_)
  · skip
    replace c5 := zb1 c5
    refine g_iload_n (pc := 10) (pl := 2) X dX9_of_10 rfl ?_
    refine g_iconst (pc := 11) X dX9_of_11 ?_
    refine g_bipush (pc := 12) X dX9_of_12 (by decide +kernel) ?_
    refine gJi (pc := 14) (n2 := 0) (k2 := 0) X cs_X9_of_41 (c_X9_in (zl K) D base e 0 8 (by omega) (by omega) (by omega)) rfl (by have := hO.lt; omega) trivial rfl ⟨Nat.le_of_ble_eq_true rfl, Nat.le_of_ble_eq_true rfl⟩ dX9_of_14 (Nat.le_of_ble_eq_true rfl) rfl rfl (fun v14 H1 hp14 hs14 => ?_)
    obtain ⟨rfl, rfl⟩ := hp14
    refine g_if_eq (pc := 17) X 29 dX9_of_17 (by decide) (zbr _) (fun c17 => ?_) (fun c17 => ?_)
    · skip
      replace c17 := zb0 c17
      refine g_bipush (pc := 29) X dX9_of_29 (by decide +kernel) ?_
      refine g_iret (pc := 31) X R hH dX9_of_31 ?_
      exact ⟨(if_neg (fun z => z c5)).trans ((if_neg (by omega)).trans ((if_neg (by omega)).trans ((if_neg (by omega)).trans ((if_neg (by omega)).trans ((if_neg (by omega)).trans ((if_neg (by omega)).trans ((if_neg (by omega)).trans ((if_neg (by omega)).trans (if_neg (by omega)))))))))), ⟨_, _, _, _, _, hO⟩, hNw, Fr.refl _ _⟩
    · skip
      replace c17 := zb1 c17
      refine g_aload_n (pc := 20) (pl := 0) X dX9_of_20 rfl ?_
      refine g_iload_n (pc := 21) (pl := 1) X dX9_of_21 rfl ?_
      refine g_iload_n (pc := 22) (pl := 2) X dX9_of_22 rfl ?_
      refine gVi (pc := 23) (n2 := 0) (k2 := 0) X cs_X9_of_177 (c_X9_ofNote (zl K) D base y kp pd at' od fi la pc f i e hq hI c5 c17) rfl hO (by omega) ⟨hO, hNw⟩ rfl ⟨Nat.le_of_ble_eq_true rfl, Nat.le_of_ble_eq_true rfl⟩ dX9_of_23 (Nat.le_of_ble_eq_true rfl) rfl rfl (fun v23 H1 hp23 hs23 => ?_)
      obtain ⟨rfl, hE, hNwn, hfq⟩ := hp23
      refine g_goto (pc := 26) X 31 dX9_of_26 (by decide) ?_
      refine g_iret (pc := 31) X R hH dX9_of_31 ?_
      exact ⟨rfl, hE, hNwn, hfq⟩
  · skip
    replace c5 := zb0 c5
    refine g_iconst (pc := 8) X dX9_of_8 ?_
    refine g_iret (pc := 9) X R hH dX9_of_9 ?_
    exact ⟨if_pos c5, ⟨_, _, _, _, _, hO⟩, hNw, Fr.refl _ _⟩

theorem lg_sbyte {u k : Nat} (hk : k < 8) : ((lg u >>> ((J ((8 : Int) * (k : Int))).toInt64 &&& 63)) &&& 255).toInt32 = J ((u / 256 ^ k % 256 : Nat) : Int) := by
  have e : ((J ((8 : Int) * (k : Int))).toInt64 &&& 63).toBitVec.smod 64 = BitVec.ofNat 64 (8 * k) := by
    rcases (show k = 0 ∨ k = 1 ∨ k = 2 ∨ k = 3 ∨ k = 4 ∨ k = 5 ∨ k = 6 ∨ k = 7 by omega) with h | h | h | h | h | h | h | h <;> rw [h] <;> decide +kernel
  rw [← J_nI]
  apply Int32.toBitVec_inj.1
  rw [Int64.toBitVec_toInt32, Int64.toBitVec_and]
  show BitVec.signExtend 32 (BitVec.sshiftRight' (BitVec.ofNat 64 u) (((J ((8 : Int) * (k : Int))).toInt64 &&& 63).toBitVec.smod 64) &&& BitVec.ofNat 64 255) = BitVec.ofNat 32 (u / 256 ^ k % 256)
  rw [e]
  have e2 : (BitVec.ofNat 64 (8 * k)).toNat = 8 * k := by
    rw [BitVec.toNat_ofNat]
    exact Nat.mod_eq_of_lt (by omega)
  apply BitVec.eq_of_getLsbD_eq
  intro i hi
  rw [BitVec.getLsbD_signExtend]
  show _ = (BitVec.ofNat 32 (u / 256 ^ k % 256)).getLsbD i
  simp only [BitVec.getLsbD_and, BitVec.sshiftRight_eq', e2, BitVec.getLsbD_sshiftRight, BitVec.getLsbD_ofNat, show (255 : Nat) = 2 ^ 8 - 1 from rfl, Nat.testBit_two_pow_sub_one, show (256 : Nat) = 2 ^ 8 from rfl, Nat.testBit_mod_two_pow, ← Nat.pow_mul, Nat.testBit_div_two_pow]
  have h1 : i < 64 := by omega
  by_cases c : i < 8
  · have h2 : i + 8 * k < 64 := by omega
    have h3 : ¬ 64 ≤ i := by omega
    simp [hi, h1, c, h2, h3, Nat.add_comm]
  · simp [hi, h1, c]
theorem cc_out {u s : Nat} (h : s = 8 ∨ u / 256 ^ s % 256 = 0) (hu : u < 18446744073709551616) (hs : s ≤ 8) : ccS u (8 - s) s = if u / 256 ^ s = 0 then (s : Int) else 0 := by
  by_cases c : s = 8
  · rw [c]
    have e : u / 256 ^ 8 = 0 := Nat.div_eq_of_lt hu
    rw [if_pos e]; rfl
  · obtain ⟨k, hk⟩ : ∃ k, 8 - s = k + 1 := ⟨8 - s - 1, by omega⟩
    rw [hk]
    by_cases z : u / 256 ^ s = 0
    · rw [if_pos z]; exact if_pos z
    · rw [if_neg z]; exact (if_neg z).trans (if_pos (by omega))
theorem dv_step {u k : Nat} (h : u / 256 ^ k % 256 = 0) : u / 256 ^ k = 0 ↔ u / 256 ^ (k + 1) = 0 := by
  have e : u / 256 ^ (k + 1) = u / 256 ^ k / 256 := by rw [Nat.div_div_eq_div_mul, Nat.pow_succ]
  rw [e]
  omega

abbrev rm_X9_byteOf : Room := { frames := 0, cells := 0, slots := 0, locals := 0 }
set_option maxRecDepth 100000 in
theorem c_X9_byteOf (l : Launch) (D : zD) (base : Nat) (u k : Nat) (hk : k < 8) : Ct l yX9_byteOf wsX9_byteOf rm_X9_byteOf D base [.long (lg u), .int (J (k : Int))] (fun _ => True) (PI (fun H v H1 => H = H1 ∧ ((u / 256 ^ k % 256 : Nat) : Int) = v)) := by
  refine Ct.of (own := RX9) (cc := cX9_byteOf) (maxL := 3) (by decide +kernel) rfl (Nat.le_of_ble_eq_true rfl) rfl ?_
  intro K H X R hH hnm hP
  show G K 0 0 H 0 [(0, .long (lg u)), (2, .int (J (k : Int)))] []
  refine g_lload_n (pc := 0) (pl := 0) X dX9_byteOf_0 rfl ?_
  refine g_bipush (pc := 1) X dX9_byteOf_1 (by decide +kernel) ?_
  refine g_iload_n (pc := 3) (pl := 1) X dX9_byteOf_3 rfl ?_
  refine g_imul (pc := 4) X dX9_byteOf_4 ?_
  refine g_lshr (pc := 5) (v := lg u >>> ((J ((8 : Int) * (k : Int))).toInt64 &&& 63)) X dX9_byteOf_5 rfl ?_
  refine g_ldc2 (pc := 6) (v := 255) X (by decide +kernel) dX9_byteOf_6 ?_
  refine g_land (pc := 9) (z := (lg u >>> ((J ((8 : Int) * (k : Int))).toInt64 &&& 63)) &&& 255) X dX9_byteOf_9 rfl ?_
  refine g_l2i (pc := 10) (v := J ((u / 256 ^ k % 256 : Nat) : Int)) X dX9_byteOf_10 (lg_sbyte hk) ?_
  refine g_iret (pc := 11) X R hH dX9_byteOf_11 ?_
  exact ⟨rfl, rfl⟩

abbrev rm_X9_toldBy : Room := { frames := 1, cells := 0, slots := 0, locals := 22 }
theorem cs_X9_toldBy_198 : zCJ RX9 wsX9_toldBy 198 yX9_byteOf wsX9_byteOf cX9_byteOf 3 (some .int) rm_X9_toldBy rm_X9_byteOf 2 := ⟨_, gX9_toldBy_X9_byteOf, rfl, ⟨by decide +kernel, by decide +kernel, by decide +kernel⟩, ⟨Nat.le_of_ble_eq_true rfl, Nat.le_of_ble_eq_true rfl⟩⟩
theorem cs_X9_toldBy_41 : zCJ RX9 wsX9_toldBy 41 yX9_in wsX9_in cX9_in 3 (some .boolean) rm_X9_toldBy rm_X9_in 3 := ⟨_, gX9_toldBy_X9_in, rfl, ⟨by decide +kernel, by decide +kernel, by decide +kernel⟩, ⟨Nat.le_of_ble_eq_true rfl, Nat.le_of_ble_eq_true rfl⟩⟩
set_option maxRecDepth 100000 in
theorem c_X9_toldBy (l : Launch) (D : zD) (base : Nat) (u : Nat) (hu : u < 18446744073709551616) : Ct l yX9_toldBy wsX9_toldBy rm_X9_toldBy D base [.long (lg u)] (fun H => base ≤ H.size) (PI (fun H v H1 => H = H1 ∧ (if (ccS u 8 0) = 0 then -2 else (ccS u 8 0)) = v)) := by
  refine Ct.of (own := RX9) (cc := cX9_toldBy) (maxL := 4) (by decide +kernel) rfl (Nat.le_of_ble_eq_true rfl) rfl ?_
  intro K H X R hH hnm hP
  show G K 0 0 H 0 [(0, .long (lg u))] []
  refine g_iconst (pc := 0) X dX9_toldBy_0 ?_
  refine g_istore_n (pc := 1) (lv' := [(2, _), (0, _)]) X dX9_toldBy_1 (by decide) rfl ?_
  have hL2 : ∀ (fu : Nat) (s : Nat) (si : Int), 9 - s < fu → (si = (s : Int)) → (s ≤ 8) → ((ccS u 8 0) = ccS u (8 - s) s) → G K 0 0 H 2 [(0, .long (lg u)), (2, .int (J si))] [] := by
    intro fu
    induction fu with
    | zero => intro s si hm; exact absurd hm (Nat.not_lt_zero _)
    | succ fu ih2 =>
      intro s si hm he h1 hc
      subst he
      refine g_iload_n (pc := 2) (pl := 1) X dX9_toldBy_2 rfl ?_
      refine g_bipush (pc := 3) X dX9_toldBy_3 (by decide +kernel) ?_
      refine g_icmp_ge (pc := 5) X 40 dX9_toldBy_5 (by decide) (by omega) (by omega) (fun c5 => ?_) (fun c5 => ?_)
      · skip
        have hx : s = 8 ∨ u / 256 ^ s % 256 = 0 := Or.inl (by omega)
        have hco := hc.trans (cc_out hx hu h1)
        refine g_iload_n (pc := 40) (pl := 1) X dX9_toldBy_40 rfl ?_
        refine g_istore_n (pc := 41) (lv' := [(3, _), (0, _), (2, _)]) X dX9_toldBy_41 (by decide) rfl ?_
        have hL42 : ∀ (fu : Nat) (k : Nat) (ki : Int), 9 - k < fu → (ki = (k : Int)) → (s ≤ k ∧ k ≤ 8) → (u / 256 ^ s = 0 ↔ u / 256 ^ k = 0) → G K 0 0 H 42 [(0, .long (lg u)), (2, .int (J (s : Int))), (3, .int (J ki))] [] := by
          intro fu
          induction fu with
          | zero => intro k ki hm; exact absurd hm (Nat.not_lt_zero _)
          | succ fu ih42 =>
            intro k ki hm he h2 hz
            subst he
            refine g_iload_n (pc := 42) (pl := 2) X dX9_toldBy_42 rfl ?_
            refine g_bipush (pc := 43) X dX9_toldBy_43 (by decide +kernel) ?_
            refine g_icmp_ge (pc := 45) X 65 dX9_toldBy_45 (by decide) (by omega) (by omega) (fun c45 => ?_) (fun c45 => ?_)
            · skip
              refine g_iload_n (pc := 65) (pl := 1) X dX9_toldBy_65 rfl ?_
              refine g_if_ne (pc := 66) X 74 dX9_toldBy_66 (by decide) (by omega) (fun c66 => ?_) (fun c66 => ?_)
              · skip
                refine g_iload_n (pc := 74) (pl := 1) X dX9_toldBy_74 rfl ?_
                refine g_iret (pc := 75) X R hH dX9_toldBy_75 ?_
                have ek : k = 8 := by omega
                have e8 : u / 256 ^ s = 0 := hz.mpr (by rw [ek]; exact Nat.div_eq_of_lt hu)
                rw [if_pos e8] at hco
                rw [hco]
                exact ⟨rfl, if_neg (by omega)⟩
              · skip
                refine g_bipush (pc := 69) X dX9_toldBy_69 (by decide +kernel) ?_
                refine g_goto (pc := 71) X 75 dX9_toldBy_71 (by decide) ?_
                refine g_iret (pc := 75) X R hH dX9_toldBy_75 ?_
                have ek : k = 8 := by omega
                have e8 : u / 256 ^ s = 0 := hz.mpr (by rw [ek]; exact Nat.div_eq_of_lt hu)
                rw [if_pos e8] at hco
                rw [hco]
                exact ⟨rfl, if_pos (by omega)⟩
            · skip
              refine g_lload_n (pc := 48) (pl := 0) X dX9_toldBy_48 rfl ?_
              refine g_iload_n (pc := 49) (pl := 2) X dX9_toldBy_49 rfl ?_
              refine gJi (pc := 50) (n2 := 0) (k2 := 0) X cs_X9_toldBy_198 (c_X9_byteOf (zl K) D base u k (by omega)) rfl hP trivial rfl ⟨Nat.le_of_ble_eq_true rfl, Nat.le_of_ble_eq_true rfl⟩ dX9_toldBy_50 (Nat.le_of_ble_eq_true rfl) rfl rfl (fun v50 H1 hp50 hs50 => ?_)
              obtain ⟨rfl, rfl⟩ := hp50
              refine g_if_eq (pc := 53) X 59 dX9_toldBy_53 (by decide) (by omega) (fun c53 => ?_) (fun c53 => ?_)
              · skip
                refine g_iinc (pc := 59) (pl := 2) (x := (k : Int)) (lv' := [(3, _), (0, _), (2, _)]) X dX9_toldBy_59 rfl (by decide) rfl ?_
                refine g_goto (pc := 62) X 42 dX9_toldBy_62 (by decide) ?_
                refine G.pick [1, 2, 0] (lv' := [(0, _), (2, _), (3, _)]) rfl ?_
                exact ih42 (k + 1) _ (by omega) (by omega) (by omega) (hz.trans (dv_step (by omega)))
              · skip
                refine g_bipush (pc := 56) X dX9_toldBy_56 (by decide +kernel) ?_
                refine g_iret (pc := 58) X R hH dX9_toldBy_58 ?_
                have e8 : ¬ u / 256 ^ s = 0 := fun z => c53 (by rw [hz.mp z]; rfl)
                exact ⟨rfl, if_pos (hco.trans (if_neg e8))⟩
        refine G.pick [1, 2, 0] (lv' := [(0, _), (2, _), (3, _)]) rfl ?_
        exact hL42 _ s _ (Nat.lt_succ_self _) rfl (by omega) Iff.rfl
      · skip
        refine g_lload_n (pc := 8) (pl := 0) X dX9_toldBy_8 rfl ?_
        refine g_iload_n (pc := 9) (pl := 1) X dX9_toldBy_9 rfl ?_
        refine gJi (pc := 10) (n2 := 0) (k2 := 0) X cs_X9_toldBy_198 (c_X9_byteOf (zl K) D base u s (by omega)) rfl hP trivial rfl ⟨Nat.le_of_ble_eq_true rfl, Nat.le_of_ble_eq_true rfl⟩ dX9_toldBy_10 (Nat.le_of_ble_eq_true rfl) rfl rfl (fun v10 H1 hp10 hs10 => ?_)
        obtain ⟨rfl, rfl⟩ := hp10
        refine g_if_eq (pc := 13) X 40 dX9_toldBy_13 (by decide) (by omega) (fun c13 => ?_) (fun c13 => ?_)
        · skip
          have hx : s = 8 ∨ u / 256 ^ s % 256 = 0 := Or.inr (by omega)
          have hco := hc.trans (cc_out hx hu h1)
          refine g_iload_n (pc := 40) (pl := 1) X dX9_toldBy_40 rfl ?_
          refine g_istore_n (pc := 41) (lv' := [(3, _), (0, _), (2, _)]) X dX9_toldBy_41 (by decide) rfl ?_
          have hL42 : ∀ (fu : Nat) (k : Nat) (ki : Int), 9 - k < fu → (ki = (k : Int)) → (s ≤ k ∧ k ≤ 8) → (u / 256 ^ s = 0 ↔ u / 256 ^ k = 0) → G K 0 0 H 42 [(0, .long (lg u)), (2, .int (J (s : Int))), (3, .int (J ki))] [] := by
            intro fu
            induction fu with
            | zero => intro k ki hm; exact absurd hm (Nat.not_lt_zero _)
            | succ fu ih42 =>
              intro k ki hm he h2 hz
              subst he
              refine g_iload_n (pc := 42) (pl := 2) X dX9_toldBy_42 rfl ?_
              refine g_bipush (pc := 43) X dX9_toldBy_43 (by decide +kernel) ?_
              refine g_icmp_ge (pc := 45) X 65 dX9_toldBy_45 (by decide) (by omega) (by omega) (fun c45 => ?_) (fun c45 => ?_)
              · skip
                refine g_iload_n (pc := 65) (pl := 1) X dX9_toldBy_65 rfl ?_
                refine g_if_ne (pc := 66) X 74 dX9_toldBy_66 (by decide) (by omega) (fun c66 => ?_) (fun c66 => ?_)
                · skip
                  refine g_iload_n (pc := 74) (pl := 1) X dX9_toldBy_74 rfl ?_
                  refine g_iret (pc := 75) X R hH dX9_toldBy_75 ?_
                  have ek : k = 8 := by omega
                  have e8 : u / 256 ^ s = 0 := hz.mpr (by rw [ek]; exact Nat.div_eq_of_lt hu)
                  rw [if_pos e8] at hco
                  rw [hco]
                  exact ⟨rfl, if_neg (by omega)⟩
                · skip
                  refine g_bipush (pc := 69) X dX9_toldBy_69 (by decide +kernel) ?_
                  refine g_goto (pc := 71) X 75 dX9_toldBy_71 (by decide) ?_
                  refine g_iret (pc := 75) X R hH dX9_toldBy_75 ?_
                  have ek : k = 8 := by omega
                  have e8 : u / 256 ^ s = 0 := hz.mpr (by rw [ek]; exact Nat.div_eq_of_lt hu)
                  rw [if_pos e8] at hco
                  rw [hco]
                  exact ⟨rfl, if_pos (by omega)⟩
              · skip
                refine g_lload_n (pc := 48) (pl := 0) X dX9_toldBy_48 rfl ?_
                refine g_iload_n (pc := 49) (pl := 2) X dX9_toldBy_49 rfl ?_
                refine gJi (pc := 50) (n2 := 0) (k2 := 0) X cs_X9_toldBy_198 (c_X9_byteOf (zl K) D base u k (by omega)) rfl hP trivial rfl ⟨Nat.le_of_ble_eq_true rfl, Nat.le_of_ble_eq_true rfl⟩ dX9_toldBy_50 (Nat.le_of_ble_eq_true rfl) rfl rfl (fun v50 H1 hp50 hs50 => ?_)
                obtain ⟨rfl, rfl⟩ := hp50
                refine g_if_eq (pc := 53) X 59 dX9_toldBy_53 (by decide) (by omega) (fun c53 => ?_) (fun c53 => ?_)
                · skip
                  refine g_iinc (pc := 59) (pl := 2) (x := (k : Int)) (lv' := [(3, _), (0, _), (2, _)]) X dX9_toldBy_59 rfl (by decide) rfl ?_
                  refine g_goto (pc := 62) X 42 dX9_toldBy_62 (by decide) ?_
                  refine G.pick [1, 2, 0] (lv' := [(0, _), (2, _), (3, _)]) rfl ?_
                  exact ih42 (k + 1) _ (by omega) (by omega) (by omega) (hz.trans (dv_step (by omega)))
                · skip
                  refine g_bipush (pc := 56) X dX9_toldBy_56 (by decide +kernel) ?_
                  refine g_iret (pc := 58) X R hH dX9_toldBy_58 ?_
                  have e8 : ¬ u / 256 ^ s = 0 := fun z => c53 (by rw [hz.mp z]; rfl)
                  exact ⟨rfl, if_pos (hco.trans (if_neg e8))⟩
          refine G.pick [1, 2, 0] (lv' := [(0, _), (2, _), (3, _)]) rfl ?_
          exact hL42 _ s _ (Nat.lt_succ_self _) rfl (by omega) Iff.rfl
        · skip
          have hnz : ¬ u / 256 ^ s = 0 := fun z => c13 (by rw [z]; rfl)
          refine g_lload_n (pc := 16) (pl := 0) X dX9_toldBy_16 rfl ?_
          refine g_iload_n (pc := 17) (pl := 1) X dX9_toldBy_17 rfl ?_
          refine gJi (pc := 18) (n2 := 0) (k2 := 0) X cs_X9_toldBy_198 (c_X9_byteOf (zl K) D base u s (by omega)) rfl hP trivial rfl ⟨Nat.le_of_ble_eq_true rfl, Nat.le_of_ble_eq_true rfl⟩ dX9_toldBy_18 (Nat.le_of_ble_eq_true rfl) rfl rfl (fun v18 H1 hp18 hs18 => ?_)
          obtain ⟨rfl, rfl⟩ := hp18
          refine g_bipush (pc := 21) X dX9_toldBy_21 (by decide +kernel) ?_
          refine g_bipush (pc := 23) X dX9_toldBy_23 (by decide +kernel) ?_
          refine gJi (pc := 25) (n2 := 0) (k2 := 0) X cs_X9_toldBy_41 (c_X9_in (zl K) D base ((u / 256 ^ s % 256 : Nat) : Int) 33 126 (by omega) (by omega) (by omega)) rfl hP trivial rfl ⟨Nat.le_of_ble_eq_true rfl, Nat.le_of_ble_eq_true rfl⟩ dX9_toldBy_25 (Nat.le_of_ble_eq_true rfl) rfl rfl (fun v25 H1 hp25 hs25 => ?_)
          obtain ⟨rfl, rfl⟩ := hp25
          refine g_if_ne (pc := 28) X 34 dX9_toldBy_28 (by decide) (zbr _) (fun c28 => ?_) (fun c28 => ?_)
          · skip
            replace c28 := zb1 c28
            refine g_iinc (pc := 34) (pl := 1) (x := (s : Int)) (lv' := [(2, _), (0, _)]) X dX9_toldBy_34 rfl (by decide) rfl ?_
            refine g_goto (pc := 37) X 2 dX9_toldBy_37 (by decide) ?_
            refine G.pick [1, 0] (lv' := [(0, _), (2, _)]) rfl ?_
            have e9 : ccS u (8 - (s + 1) + 1) s = ccS u (8 - (s + 1)) (s + 1) := (if_neg hnz).trans (if_neg (by omega))
            rw [show 8 - (s + 1) + 1 = 8 - s by omega] at e9
            exact ih2 (s + 1) _ (by omega) (by omega) (by omega) (hc.trans e9)
          · skip
            replace c28 := zb0 c28
            refine g_bipush (pc := 31) X dX9_toldBy_31 (by decide +kernel) ?_
            refine g_iret (pc := 33) X R hH dX9_toldBy_33 ?_
            have e9 : ccS u (8 - (s + 1) + 1) s = 0 := (if_neg hnz).trans (if_pos (by omega))
            rw [show 8 - (s + 1) + 1 = 8 - s by omega] at e9
            exact ⟨rfl, if_pos (hc.trans e9)⟩
  refine G.pick [1, 0] (lv' := [(0, _), (2, _)]) rfl ?_
  exact hL2 _ 0 _ (Nat.lt_succ_self _) rfl (by omega) rfl

abbrev rm_X9_put : Room := { frames := 2, cells := 0, slots := 0, locals := 45 }
theorem cs_X9_put_202 : zCJ RX9 wsX9_put 202 yX9_toldBy wsX9_toldBy cX9_toldBy 4 (some .int) rm_X9_put rm_X9_toldBy 1 := ⟨_, gX9_put_X9_toldBy, rfl, ⟨by decide +kernel, by decide +kernel, by decide +kernel⟩, ⟨Nat.le_of_ble_eq_true rfl, Nat.le_of_ble_eq_true rfl⟩⟩
theorem zF_X9_put_186 : zF RX9 wsX9_put 9 6 186 := ⟨RX9, TX9, 17, rfl, by decide +kernel, by decide, by decide +kernel⟩
theorem zF_X9_put_23 : zF RX9 wsX9_put 9 5 23 := ⟨RX9, TX9, 17, rfl, by decide +kernel, by decide, by decide +kernel⟩
theorem cs_X9_put_198 : zCJ RX9 wsX9_put 198 yX9_byteOf wsX9_byteOf cX9_byteOf 3 (some .int) rm_X9_put rm_X9_byteOf 2 := ⟨_, gX9_put_X9_byteOf, rfl, ⟨by decide +kernel, by decide +kernel, by decide +kernel⟩, ⟨Nat.le_of_ble_eq_true rfl, Nat.le_of_ble_eq_true rfl⟩⟩
theorem zW_X9_put_186 : zW RX9 wsX9_put 9 6 186 false (tyX9 6) := ⟨RX9, TX9, 17, tyX9, rfl, by decide +kernel, by decide, by decide +kernel, tyX9_ok, nmX9, rfl, rfl, rfl⟩
set_option maxRecDepth 100000 in
theorem c_X9_put (l : Launch) (D : zD) (base : Nat) (y : Nat) (kp pd at' od fi la pc : Int) (f : Int → Int) (P : Int → Int) (u : Nat) (hq : base ≤ y) (hpd : 0 ≤ pd ∧ pd ≤ 80) (hu : u < 18446744073709551616) : Ct l yX9_put wsX9_put rm_X9_put D base [.ref y, .long (lg u)] (fun H => MoO D y kp pd at' od fi la pc H ∧ NwAt D y f H ∧ Ia D (y + 5) 80 P H) (PI (fun H v H1 => ptR u pd = v ∧ MoO D y kp (ptN u pd) at' od fi la pc H1 ∧ NwAt D y f H1 ∧ (∃ P2 : Int → Int, (∀ i : Int, 0 ≤ i → i < ptN u pd → P2 i = (ptF u (ccS u 8 0) pd P) i) ∧ Ia D (y + 5) 80 P2 H1) ∧ Fr (Un y (y + 1) (y + 5) (y + 6)) 0 H H1)) := by
  refine Ct.of (own := RX9) (cc := cX9_put) (maxL := 5) (by decide +kernel) rfl (Nat.le_of_ble_eq_true rfl) rfl ?_
  intro K H X R hH hnm hP
  show G K 0 0 H 0 [(0, .ref y), (1, .long (lg u))] []
  obtain ⟨hO, hNw, hPd⟩ := hP
  have hcb := ccS_bd u 8 0
  refine g_lload_n (pc := 0) (pl := 1) X dX9_put_0 rfl ?_
  refine gJi (pc := 1) (n2 := 0) (k2 := 0) X cs_X9_put_202 (c_X9_toldBy (zl K) D base u hu) rfl (by have := hO.lt; omega) (by have := hO.lt; omega) rfl ⟨Nat.le_of_ble_eq_true rfl, Nat.le_of_ble_eq_true rfl⟩ dX9_put_1 (Nat.le_of_ble_eq_true rfl) rfl rfl (fun v1 H1 hp1 hs1 => ?_)
  obtain ⟨rfl, hv1⟩ := hp1
  have hv2 : (ccS u 8 0 = 0 ∧ v1 = -2) ∨ (0 < ccS u 8 0 ∧ v1 = ccS u 8 0) := by by_cases z : ccS u 8 0 = 0; (rw [if_pos z] at hv1; exact Or.inl ⟨z, hv1.symm⟩); (rw [if_neg z] at hv1; exact Or.inr ⟨by omega, hv1.symm⟩)
  refine g_istore_n (pc := 4) (lv' := [(3, _), (0, _), (1, _)]) X dX9_put_4 (by decide) rfl ?_
  refine g_iload_n (pc := 5) (pl := 0) X dX9_put_5 rfl ?_
  refine g_if_ge (pc := 6) X 11 dX9_put_6 (by decide) (by omega) (fun c6 => ?_) (fun c6 => ?_)
  · skip
    have hv3 : v1 = ccS u 8 0 := by omega
    have hv4 : 0 < ccS u 8 0 := by omega
    subst hv3
    refine g_aload_n (pc := 11) (pl := 1) X dX9_put_11 rfl ?_
    refine g_getf (pc := 12) X zF_X9_put_186 hO rfl dX9_put_12 ?_
    refine g_iload_n (pc := 15) (pl := 0) X dX9_put_15 rfl ?_
    refine g_iadd (pc := 16) X dX9_put_16 ?_
    refine g_bipush (pc := 17) X dX9_put_17 (by decide +kernel) ?_
    refine g_icmp_le (pc := 19) X 25 dX9_put_19 (by decide) (by omega) (by omega) (fun c19 => ?_) (fun c19 => ?_)
    · skip
      refine g_iload_n (pc := 25) (pl := 0) X dX9_put_25 rfl ?_
      refine g_iconst (pc := 26) X dX9_put_26 ?_
      refine g_isub (pc := 27) X dX9_put_27 ?_
      refine g_istore (pc := 28) (lv' := [(4, _), (3, _), (0, _), (1, _)]) X dX9_put_28 (by decide) rfl ?_
      have hL30 : ∀ (fu : Nat) (b : Nat) (bi : Int) (P1 : Int → Int) (Hx : Heap), b < fu → (bi = (b : Int) - 1) → ((b : Int) ≤ ccS u 8 0) → (∀ i : Int, 0 ≤ i → i < pd + ccS u 8 0 - (b : Int) → P1 i = (ptF u (ccS u 8 0) pd P) i) → (MoO D y kp (pd + ccS u 8 0 - (b : Int)) at' od fi la pc Hx) → (NwAt D y f Hx) → (Ia D (y + 5) 80 P1 Hx) → (Fr (Un y (y + 1) (y + 5) (y + 6)) 0 H Hx) → G K 0 0 Hx 30 [(0, .ref y), (1, .long (lg u)), (3, .int (J (ccS u 8 0))), (4, .int (J bi))] [] := by
        intro fu
        induction fu with
        | zero => intro b bi P1 Hx hm; exact absurd hm (Nat.not_lt_zero _)
        | succ fu ih30 =>
          intro b bi P1 Hx hm hb h1 hP9 hO hNw hPd hu3
          refine g_iload (pc := 30) (pl := 3) X dX9_put_30 rfl ?_
          refine g_if_lt (pc := 32) X 66 dX9_put_32 (by decide) (by omega) (fun c32 => ?_) (fun c32 => ?_)
          · skip
            have eb : pd + ccS u 8 0 - (b : Int) = pd + ccS u 8 0 := by omega
            rw [eb] at hO
            refine g_aload_n (pc := 66) (pl := 0) X dX9_put_66 rfl ?_
            refine g_getf (pc := 67) X zF_X9_put_186 hO rfl dX9_put_67 ?_
            refine g_iret (pc := 70) X R hH dX9_put_70 ?_
            have e1 : ptR u pd = pd + ccS u 8 0 := (if_neg (by omega)).trans (if_neg (by omega))
            have e2 : ptN u pd = pd + ccS u 8 0 := (if_neg (by omega)).trans (if_neg (by omega))
            rw [e2]
            exact ⟨e1, hO, hNw, ⟨P1, fun i i0 i1 => hP9 i i0 (by omega), hPd⟩, hu3⟩
          · skip
            obtain ⟨b1, rfl⟩ : ∃ z, b = z + 1 := ⟨b - 1, by omega⟩
            have hb1 : bi = (b1 : Int) := by omega
            subst hb1
            refine g_aload_n (pc := 35) (pl := 0) X dX9_put_35 rfl ?_
            refine g_getf (pc := 36) X zF_X9_put_23 hO rfl dX9_put_36 ?_
            refine g_aload_n (pc := 39) (pl := 0) X dX9_put_39 rfl ?_
            refine g_getf (pc := 40) X zF_X9_put_186 hO rfl dX9_put_40 ?_
            refine g_lload_n (pc := 43) (pl := 1) X dX9_put_43 rfl ?_
            refine g_iload (pc := 44) (pl := 3) X dX9_put_44 rfl ?_
            refine gJi (pc := 46) (n2 := 0) (k2 := 0) X cs_X9_put_198 (c_X9_byteOf (zl K) D base u b1 (by omega)) rfl (by have := hO.lt; omega) trivial rfl ⟨Nat.le_of_ble_eq_true rfl, Nat.le_of_ble_eq_true rfl⟩ dX9_put_46 (Nat.le_of_ble_eq_true rfl) rfl rfl (fun v46 H1 hp46 hs46 => ?_)
            obtain ⟨rfl, rfl⟩ := hp46
            refine g_iastore (pc := 49) X hPd (by omega) (by omega) (by omega) (by omega) dX9_put_49 (fun H1 hPdn hf1 => ?_)
            replace hO := hO.fr hf1 (by omega)
            replace hNw := hNw.fr hf1 (by omega)
            replace hPd := hPdn
            clear hPdn
            refine g_aload_n (pc := 50) (pl := 0) X dX9_put_50 rfl ?_
            refine g_dup (pc := 51) X dX9_put_51 rfl ?_
            refine g_getf (pc := 52) X zF_X9_put_186 hO rfl dX9_put_52 ?_
            refine g_iconst (pc := 55) X dX9_put_55 ?_
            refine g_iadd (pc := 56) X dX9_put_56 ?_
            refine g_putf (pc := 57) X zW_X9_put_186 hO (by omega) rfl rfl rfl dX9_put_57 (fun H2 hOn hf2 => ?_)
            replace hNw := hNw.fr hf2 (by omega)
            replace hPd := hPd.fr hf2 (by omega)
            replace hO : Ob D y 9 [.ref (y + 1), .ref (y + 2), .int (J kp), .ref (y + 3), .ref (y + 4), .ref (y + 5), .int (J ((pd + ccS u 8 0 - ((b1 + 1 : Nat) : Int)) + 1)), .int (J at'), .ref (y + 6), .int (J od), .int (J fi), .int (J la), .int (J pc), .ref (y + 7), .ref (y + 8), .ref (y + 9), .ref (y + 10)] H2 := hOn
            clear hOn
            refine g_iinc (pc := 60) (pl := 3) (x := (b1 : Int)) (lv' := [(4, _), (0, _), (1, _), (3, _)]) X dX9_put_60 rfl (by decide) rfl ?_
            refine g_goto (pc := 63) X 30 dX9_put_63 (by decide) ?_
            refine G.pick [1, 2, 3, 0] (lv' := [(0, _), (1, _), (3, _), (4, _)]) rfl ?_
            have hO1 : MoO D y kp (pd + ccS u 8 0 - (b1 : Int)) at' od fi la pc H2 := by rw [show pd + ccS u 8 0 - (b1 : Int) = pd + ccS u 8 0 - ((b1 + 1 : Nat) : Int) + 1 by omega]; exact hO
            have hP8 : ∀ i : Int, 0 ≤ i → i < pd + ccS u 8 0 - (b1 : Int) → up P1 (pd + ccS u 8 0 - ((b1 + 1 : Nat) : Int)) ((u / 256 ^ b1 % 256 : Nat) : Int) i = ptF u (ccS u 8 0) pd P i := fun i i0 i1 => by
              by_cases c : i = pd + ccS u 8 0 - ((b1 + 1 : Nat) : Int)
              · refine (if_pos c).trans ?_
                unfold ptF
                rw [if_neg (by omega), show (ccS u 8 0 - 1 - (i - pd)).toNat = b1 by omega]
              · exact (if_neg c).trans (hP9 i i0 (by omega))
            exact ih30 b1 _ _ H2 (by omega) (by omega) (by omega) hP8 hO1 hNw hPd (Fr.trans hu3 (Fr.trans (hf1.un (by omega)) (hf2.un (by omega))))
      refine G.pick [2, 3, 1, 0] (lv' := [(0, _), (1, _), (3, _), (4, _)]) rfl ?_
      have hO0 : MoO D y kp (pd + ccS u 8 0 - (((ccS u 8 0).toNat : Nat) : Int)) at' od fi la pc H := by rw [show pd + ccS u 8 0 - (((ccS u 8 0).toNat : Nat) : Int) = pd by omega]; exact hO
      exact hL30 _ (ccS u 8 0).toNat _ P H (Nat.lt_succ_self _) (by omega) (by omega) (fun i i0 i1 => ptF_lo i i0 (by omega)) hO0 hNw hPd (Fr.refl _ _)
    · skip
      refine g_bipush (pc := 22) X dX9_put_22 (by decide +kernel) ?_
      refine g_iret (pc := 24) X R hH dX9_put_24 ?_
      have e1 : ptR u pd = -4 := (if_neg (by omega)).trans (if_pos (by omega))
      have e2 : ptN u pd = pd := (if_neg (by omega)).trans (if_pos (by omega))
      rw [e2]
      exact ⟨e1, hO, hNw, ⟨P, fun i i0 i1 => ptF_lo i i0 i1, hPd⟩, Fr.refl _ _⟩
  · skip
    refine g_iload_n (pc := 9) (pl := 0) X dX9_put_9 rfl ?_
    refine g_iret (pc := 10) X R hH dX9_put_10 ?_
    have e1 : ptR u pd = v1 := (if_pos (by omega)).trans (by omega)
    have e2 : ptN u pd = pd := if_pos (by omega)
    rw [e2]
    exact ⟨e1, hO, hNw, ⟨P, fun i i0 i1 => ptF_lo i i0 i1, hPd⟩, Fr.refl _ _⟩

abbrev rm_X9_init : Room := { frames := 1, cells := 10, slots := 13071, locals := 12 }
theorem zW_X9_init_7 : zW RX9 wsX9_init 9 0 7 true (tyX9 0) := ⟨RX9, TX9, 17, tyX9, rfl, by decide +kernel, by decide, by decide +kernel, tyX9_ok, nmX9, rfl, rfl, rfl⟩
theorem zW_X9_init_13 : zW RX9 wsX9_init 9 1 13 true (tyX9 1) := ⟨RX9, TX9, 17, tyX9, rfl, by decide +kernel, by decide, by decide +kernel, tyX9_ok, nmX9, rfl, rfl, rfl⟩
theorem zW_X9_init_16 : zW RX9 wsX9_init 9 3 16 true (tyX9 3) := ⟨RX9, TX9, 17, tyX9, rfl, by decide +kernel, by decide, by decide +kernel, tyX9_ok, nmX9, rfl, rfl, rfl⟩
theorem zW_X9_init_19 : zW RX9 wsX9_init 9 4 19 true (tyX9 4) := ⟨RX9, TX9, 17, tyX9, rfl, by decide +kernel, by decide, by decide +kernel, tyX9_ok, nmX9, rfl, rfl, rfl⟩
theorem zW_X9_init_23 : zW RX9 wsX9_init 9 5 23 true (tyX9 5) := ⟨RX9, TX9, 17, tyX9, rfl, by decide +kernel, by decide, by decide +kernel, tyX9_ok, nmX9, rfl, rfl, rfl⟩
theorem zW_X9_init_26 : zW RX9 wsX9_init 9 8 26 true (tyX9 8) := ⟨RX9, TX9, 17, tyX9, rfl, by decide +kernel, by decide, by decide +kernel, tyX9_ok, nmX9, rfl, rfl, rfl⟩
theorem zW_X9_init_29 : zW RX9 wsX9_init 9 13 29 true (tyX9 13) := ⟨RX9, TX9, 17, tyX9, rfl, by decide +kernel, by decide, by decide +kernel, tyX9_ok, nmX9, rfl, rfl, rfl⟩
theorem zW_X9_init_32 : zW RX9 wsX9_init 9 14 32 true (tyX9 14) := ⟨RX9, TX9, 17, tyX9, rfl, by decide +kernel, by decide, by decide +kernel, tyX9_ok, nmX9, rfl, rfl, rfl⟩
theorem zW_X9_init_35 : zW RX9 wsX9_init 9 15 35 true (tyX9 15) := ⟨RX9, TX9, 17, tyX9, rfl, by decide +kernel, by decide, by decide +kernel, tyX9_ok, nmX9, rfl, rfl, rfl⟩
theorem zW_X9_init_38 : zW RX9 wsX9_init 9 16 38 true (tyX9 16) := ⟨RX9, TX9, 17, tyX9, rfl, by decide +kernel, by decide, by decide +kernel, tyX9_ok, nmX9, rfl, rfl, rfl⟩
theorem zF_X9_init_7 : zF RX9 wsX9_init 9 0 7 := ⟨RX9, TX9, 17, rfl, by decide +kernel, by decide, by decide +kernel⟩
set_option maxRecDepth 100000 in
theorem c_X9_init (l : Launch) (D : zD) (base : Nat) (y : Nat) (hq : base ≤ y) : Ct l yX9_init wsX9_init rm_X9_init D base [.ref y] (fun H => Ob D y 9 [.null, .null, .int (J 0), .null, .null, .null, .int (J 0), .int (J 0), .null, .int (J 0), .int (J 0), .int (J 0), .int (J 0), .null, .null, .null, .null] H ∧ H.size = y + 1) (PV (fun H H1 => MoO D y 0 0 0 0 0 0 0 H1 ∧ NwAt D y g0 H1 ∧ Ia D (y + 2) 8430 (fun _ => 0) H1 ∧ Ia D (y + 3) 2810 (fun _ => 0) H1 ∧ Ba D (y + 4) 2 (fun _ => 0) H1 ∧ Ia D (y + 5) 80 (fun _ => 0) H1 ∧ Ia D (y + 6) 112 (fun _ => 0) H1 ∧ Ia D (y + 7) 16 (fun _ => 0) H1 ∧ Ia D (y + 8) 16 (fun _ => 0) H1 ∧ Ia D (y + 9) 80 (fun _ => 0) H1 ∧ Ia D (y + 10) 120 (fun _ => 0) H1 ∧ Fr (Iv y (y + 11)) 10 H H1)) := by
  refine Ct.of (own := RX9) (cc := cX9_init) (maxL := 1) (by decide +kernel) rfl (Nat.le_of_ble_eq_true rfl) rfl ?_
  intro K H X R hH hnm hP
  show G K 0 0 H 0 [(0, .ref y)] []
  obtain ⟨hO, hsz⟩ := hP
  refine g_aload_n (pc := 0) (pl := 0) X dX9_init_0 rfl ?_
  refine g_objInit (pc := 1) X (by decide +kernel) (by decide +kernel) (by decide +kernel) (by decide) (Nat.le_of_ble_eq_true rfl) dX9_init_1 ?_
  refine g_aload_n (pc := 4) (pl := 0) X dX9_init_4 rfl ?_
  refine g_sipush (pc := 5) X dX9_init_5 (by decide +kernel) ?_
  refine g_newarr (pc := 8) (N := 1405) (n2 := 1) (k2 := 1405) X (by decide +kernel) rfl (Nat.le_of_ble_eq_true rfl) (Nat.le_of_ble_eq_true rfl) (Nat.le_of_ble_eq_true rfl) dX9_init_8 rfl rfl (fun H1 hz1 hNew hon1 => ?_)
  rw [hsz] at hNew ⊢
  have hNw := hNew
  clear hNew
  have hf1 : Fr (Iv 0 0) 1 H H1 := Fr.new hz1 hon1
  replace hsz : H1.size = y + 2 := by have e := hf1.1; omega
  replace hO := hO.fr hf1 (by omega)
  refine g_putF (pc := 10) X zW_X9_init_7 hnm rfl hO (by omega) rfl rfl rfl dX9_init_10 (fun H2 hOn hf2 => ?_)
  replace hsz : H2.size = y + 2 := by have e := hf2.1; omega
  replace hNw := hNw.fr hf2 (by omega)
  replace hO : Ob D y 9 [.ref (y + 1), .null, .int (J 0), .null, .null, .null, .int (J 0), .int (J 0), .null, .int (J 0), .int (J 0), .int (J 0), .int (J 0), .null, .null, .null, .null] H2 := hOn
  clear hOn
  refine g_aload_n (pc := 13) (pl := 0) X dX9_init_13 rfl ?_
  refine g_sipush (pc := 14) X dX9_init_14 (by decide +kernel) ?_
  refine g_newarr (pc := 17) (N := 8430) (n2 := 2) (k2 := 9835) X (by decide +kernel) rfl (Nat.le_of_ble_eq_true rfl) (Nat.le_of_ble_eq_true rfl) (Nat.le_of_ble_eq_true rfl) dX9_init_17 rfl rfl (fun H3 hz3 hNew hon3 => ?_)
  rw [hsz] at hNew ⊢
  have hPs := hNew
  clear hNew
  have hf3 : Fr (Iv 0 0) 1 H2 H3 := Fr.new hz3 hon3
  replace hsz : H3.size = y + 3 := by have e := hf3.1; omega
  replace hO := hO.fr hf3 (by omega)
  replace hNw := hNw.fr hf3 (by omega)
  refine g_putF (pc := 19) X zW_X9_init_13 hnm rfl hO (by omega) rfl rfl rfl dX9_init_19 (fun H4 hOn hf4 => ?_)
  replace hsz : H4.size = y + 3 := by have e := hf4.1; omega
  replace hNw := hNw.fr hf4 (by omega)
  replace hPs := hPs.fr hf4 (by omega)
  replace hO : Ob D y 9 [.ref (y + 1), .ref (y + 2), .int (J 0), .null, .null, .null, .int (J 0), .int (J 0), .null, .int (J 0), .int (J 0), .int (J 0), .int (J 0), .null, .null, .null, .null] H4 := hOn
  clear hOn
  refine g_aload_n (pc := 22) (pl := 0) X dX9_init_22 rfl ?_
  refine g_sipush (pc := 23) X dX9_init_23 (by decide +kernel) ?_
  refine g_newarr (pc := 26) (N := 2810) (n2 := 3) (k2 := 12645) X (by decide +kernel) rfl (Nat.le_of_ble_eq_true rfl) (Nat.le_of_ble_eq_true rfl) (Nat.le_of_ble_eq_true rfl) dX9_init_26 rfl rfl (fun H5 hz5 hNew hon5 => ?_)
  rw [hsz] at hNew ⊢
  have hSl := hNew
  clear hNew
  have hf5 : Fr (Iv 0 0) 1 H4 H5 := Fr.new hz5 hon5
  replace hsz : H5.size = y + 4 := by have e := hf5.1; omega
  replace hO := hO.fr hf5 (by omega)
  replace hNw := hNw.fr hf5 (by omega)
  replace hPs := hPs.fr hf5 (by omega)
  refine g_putF (pc := 28) X zW_X9_init_16 hnm rfl hO (by omega) rfl rfl rfl dX9_init_28 (fun H6 hOn hf6 => ?_)
  replace hsz : H6.size = y + 4 := by have e := hf6.1; omega
  replace hNw := hNw.fr hf6 (by omega)
  replace hPs := hPs.fr hf6 (by omega)
  replace hSl := hSl.fr hf6 (by omega)
  replace hO : Ob D y 9 [.ref (y + 1), .ref (y + 2), .int (J 0), .ref (y + 3), .null, .null, .int (J 0), .int (J 0), .null, .int (J 0), .int (J 0), .int (J 0), .int (J 0), .null, .null, .null, .null] H6 := hOn
  clear hOn
  refine g_aload_n (pc := 31) (pl := 0) X dX9_init_31 rfl ?_
  refine g_iconst (pc := 32) X dX9_init_32 ?_
  refine g_newarrZ (pc := 33) (N := 2) (n2 := 4) (k2 := 12647) X (by decide +kernel) rfl (Nat.le_of_ble_eq_true rfl) (Nat.le_of_ble_eq_true rfl) (Nat.le_of_ble_eq_true rfl) dX9_init_33 rfl rfl (fun H7 hz7 hNew hon7 => ?_)
  rw [hsz] at hNew ⊢
  have hHb := hNew
  clear hNew
  have hf7 : Fr (Iv 0 0) 1 H6 H7 := Fr.new hz7 hon7
  replace hsz : H7.size = y + 5 := by have e := hf7.1; omega
  replace hO := hO.fr hf7 (by omega)
  replace hNw := hNw.fr hf7 (by omega)
  replace hPs := hPs.fr hf7 (by omega)
  replace hSl := hSl.fr hf7 (by omega)
  refine g_putF (pc := 35) X zW_X9_init_19 hnm rfl hO (by omega) rfl rfl rfl dX9_init_35 (fun H8 hOn hf8 => ?_)
  replace hsz : H8.size = y + 5 := by have e := hf8.1; omega
  replace hNw := hNw.fr hf8 (by omega)
  replace hPs := hPs.fr hf8 (by omega)
  replace hSl := hSl.fr hf8 (by omega)
  replace hHb := hHb.fr hf8 (by omega)
  replace hO : Ob D y 9 [.ref (y + 1), .ref (y + 2), .int (J 0), .ref (y + 3), .ref (y + 4), .null, .int (J 0), .int (J 0), .null, .int (J 0), .int (J 0), .int (J 0), .int (J 0), .null, .null, .null, .null] H8 := hOn
  clear hOn
  refine g_aload_n (pc := 38) (pl := 0) X dX9_init_38 rfl ?_
  refine g_bipush (pc := 39) X dX9_init_39 (by decide +kernel) ?_
  refine g_newarr (pc := 41) (N := 80) (n2 := 5) (k2 := 12727) X (by decide +kernel) rfl (Nat.le_of_ble_eq_true rfl) (Nat.le_of_ble_eq_true rfl) (Nat.le_of_ble_eq_true rfl) dX9_init_41 rfl rfl (fun H9 hz9 hNew hon9 => ?_)
  rw [hsz] at hNew ⊢
  have hPd := hNew
  clear hNew
  have hf9 : Fr (Iv 0 0) 1 H8 H9 := Fr.new hz9 hon9
  replace hsz : H9.size = y + 6 := by have e := hf9.1; omega
  replace hO := hO.fr hf9 (by omega)
  replace hNw := hNw.fr hf9 (by omega)
  replace hPs := hPs.fr hf9 (by omega)
  replace hSl := hSl.fr hf9 (by omega)
  replace hHb := hHb.fr hf9 (by omega)
  refine g_putF (pc := 43) X zW_X9_init_23 hnm rfl hO (by omega) rfl rfl rfl dX9_init_43 (fun H10 hOn hf10 => ?_)
  replace hsz : H10.size = y + 6 := by have e := hf10.1; omega
  replace hNw := hNw.fr hf10 (by omega)
  replace hPs := hPs.fr hf10 (by omega)
  replace hSl := hSl.fr hf10 (by omega)
  replace hHb := hHb.fr hf10 (by omega)
  replace hPd := hPd.fr hf10 (by omega)
  replace hO : Ob D y 9 [.ref (y + 1), .ref (y + 2), .int (J 0), .ref (y + 3), .ref (y + 4), .ref (y + 5), .int (J 0), .int (J 0), .null, .int (J 0), .int (J 0), .int (J 0), .int (J 0), .null, .null, .null, .null] H10 := hOn
  clear hOn
  refine g_aload_n (pc := 46) (pl := 0) X dX9_init_46 rfl ?_
  refine g_bipush (pc := 47) X dX9_init_47 (by decide +kernel) ?_
  refine g_newarr (pc := 49) (N := 112) (n2 := 6) (k2 := 12839) X (by decide +kernel) rfl (Nat.le_of_ble_eq_true rfl) (Nat.le_of_ble_eq_true rfl) (Nat.le_of_ble_eq_true rfl) dX9_init_49 rfl rfl (fun H11 hz11 hNew hon11 => ?_)
  rw [hsz] at hNew ⊢
  have hOr := hNew
  clear hNew
  have hf11 : Fr (Iv 0 0) 1 H10 H11 := Fr.new hz11 hon11
  replace hsz : H11.size = y + 7 := by have e := hf11.1; omega
  replace hO := hO.fr hf11 (by omega)
  replace hNw := hNw.fr hf11 (by omega)
  replace hPs := hPs.fr hf11 (by omega)
  replace hSl := hSl.fr hf11 (by omega)
  replace hHb := hHb.fr hf11 (by omega)
  replace hPd := hPd.fr hf11 (by omega)
  refine g_putF (pc := 51) X zW_X9_init_26 hnm rfl hO (by omega) rfl rfl rfl dX9_init_51 (fun H12 hOn hf12 => ?_)
  replace hsz : H12.size = y + 7 := by have e := hf12.1; omega
  replace hNw := hNw.fr hf12 (by omega)
  replace hPs := hPs.fr hf12 (by omega)
  replace hSl := hSl.fr hf12 (by omega)
  replace hHb := hHb.fr hf12 (by omega)
  replace hPd := hPd.fr hf12 (by omega)
  replace hOr := hOr.fr hf12 (by omega)
  replace hO : Ob D y 9 [.ref (y + 1), .ref (y + 2), .int (J 0), .ref (y + 3), .ref (y + 4), .ref (y + 5), .int (J 0), .int (J 0), .ref (y + 6), .int (J 0), .int (J 0), .int (J 0), .int (J 0), .null, .null, .null, .null] H12 := hOn
  clear hOn
  refine g_aload_n (pc := 54) (pl := 0) X dX9_init_54 rfl ?_
  refine g_bipush (pc := 55) X dX9_init_55 (by decide +kernel) ?_
  refine g_newarr (pc := 57) (N := 16) (n2 := 7) (k2 := 12855) X (by decide +kernel) rfl (Nat.le_of_ble_eq_true rfl) (Nat.le_of_ble_eq_true rfl) (Nat.le_of_ble_eq_true rfl) dX9_init_57 rfl rfl (fun H13 hz13 hNew hon13 => ?_)
  rw [hsz] at hNew ⊢
  have hLn := hNew
  clear hNew
  have hf13 : Fr (Iv 0 0) 1 H12 H13 := Fr.new hz13 hon13
  replace hsz : H13.size = y + 8 := by have e := hf13.1; omega
  replace hO := hO.fr hf13 (by omega)
  replace hNw := hNw.fr hf13 (by omega)
  replace hPs := hPs.fr hf13 (by omega)
  replace hSl := hSl.fr hf13 (by omega)
  replace hHb := hHb.fr hf13 (by omega)
  replace hPd := hPd.fr hf13 (by omega)
  replace hOr := hOr.fr hf13 (by omega)
  refine g_putF (pc := 59) X zW_X9_init_29 hnm rfl hO (by omega) rfl rfl rfl dX9_init_59 (fun H14 hOn hf14 => ?_)
  replace hsz : H14.size = y + 8 := by have e := hf14.1; omega
  replace hNw := hNw.fr hf14 (by omega)
  replace hPs := hPs.fr hf14 (by omega)
  replace hSl := hSl.fr hf14 (by omega)
  replace hHb := hHb.fr hf14 (by omega)
  replace hPd := hPd.fr hf14 (by omega)
  replace hOr := hOr.fr hf14 (by omega)
  replace hLn := hLn.fr hf14 (by omega)
  replace hO : Ob D y 9 [.ref (y + 1), .ref (y + 2), .int (J 0), .ref (y + 3), .ref (y + 4), .ref (y + 5), .int (J 0), .int (J 0), .ref (y + 6), .int (J 0), .int (J 0), .int (J 0), .int (J 0), .ref (y + 7), .null, .null, .null] H14 := hOn
  clear hOn
  refine g_aload_n (pc := 62) (pl := 0) X dX9_init_62 rfl ?_
  refine g_bipush (pc := 63) X dX9_init_63 (by decide +kernel) ?_
  refine g_newarr (pc := 65) (N := 16) (n2 := 8) (k2 := 12871) X (by decide +kernel) rfl (Nat.le_of_ble_eq_true rfl) (Nat.le_of_ble_eq_true rfl) (Nat.le_of_ble_eq_true rfl) dX9_init_65 rfl rfl (fun H15 hz15 hNew hon15 => ?_)
  rw [hsz] at hNew ⊢
  have hOw := hNew
  clear hNew
  have hf15 : Fr (Iv 0 0) 1 H14 H15 := Fr.new hz15 hon15
  replace hsz : H15.size = y + 9 := by have e := hf15.1; omega
  replace hO := hO.fr hf15 (by omega)
  replace hNw := hNw.fr hf15 (by omega)
  replace hPs := hPs.fr hf15 (by omega)
  replace hSl := hSl.fr hf15 (by omega)
  replace hHb := hHb.fr hf15 (by omega)
  replace hPd := hPd.fr hf15 (by omega)
  replace hOr := hOr.fr hf15 (by omega)
  replace hLn := hLn.fr hf15 (by omega)
  refine g_putF (pc := 67) X zW_X9_init_32 hnm rfl hO (by omega) rfl rfl rfl dX9_init_67 (fun H16 hOn hf16 => ?_)
  replace hsz : H16.size = y + 9 := by have e := hf16.1; omega
  replace hNw := hNw.fr hf16 (by omega)
  replace hPs := hPs.fr hf16 (by omega)
  replace hSl := hSl.fr hf16 (by omega)
  replace hHb := hHb.fr hf16 (by omega)
  replace hPd := hPd.fr hf16 (by omega)
  replace hOr := hOr.fr hf16 (by omega)
  replace hLn := hLn.fr hf16 (by omega)
  replace hOw := hOw.fr hf16 (by omega)
  replace hO : Ob D y 9 [.ref (y + 1), .ref (y + 2), .int (J 0), .ref (y + 3), .ref (y + 4), .ref (y + 5), .int (J 0), .int (J 0), .ref (y + 6), .int (J 0), .int (J 0), .int (J 0), .int (J 0), .ref (y + 7), .ref (y + 8), .null, .null] H16 := hOn
  clear hOn
  refine g_aload_n (pc := 70) (pl := 0) X dX9_init_70 rfl ?_
  refine g_bipush (pc := 71) X dX9_init_71 (by decide +kernel) ?_
  refine g_newarr (pc := 73) (N := 80) (n2 := 9) (k2 := 12951) X (by decide +kernel) rfl (Nat.le_of_ble_eq_true rfl) (Nat.le_of_ble_eq_true rfl) (Nat.le_of_ble_eq_true rfl) dX9_init_73 rfl rfl (fun H17 hz17 hNew hon17 => ?_)
  rw [hsz] at hNew ⊢
  have hFu := hNew
  clear hNew
  have hf17 : Fr (Iv 0 0) 1 H16 H17 := Fr.new hz17 hon17
  replace hsz : H17.size = y + 10 := by have e := hf17.1; omega
  replace hO := hO.fr hf17 (by omega)
  replace hNw := hNw.fr hf17 (by omega)
  replace hPs := hPs.fr hf17 (by omega)
  replace hSl := hSl.fr hf17 (by omega)
  replace hHb := hHb.fr hf17 (by omega)
  replace hPd := hPd.fr hf17 (by omega)
  replace hOr := hOr.fr hf17 (by omega)
  replace hLn := hLn.fr hf17 (by omega)
  replace hOw := hOw.fr hf17 (by omega)
  refine g_putF (pc := 75) X zW_X9_init_35 hnm rfl hO (by omega) rfl rfl rfl dX9_init_75 (fun H18 hOn hf18 => ?_)
  replace hsz : H18.size = y + 10 := by have e := hf18.1; omega
  replace hNw := hNw.fr hf18 (by omega)
  replace hPs := hPs.fr hf18 (by omega)
  replace hSl := hSl.fr hf18 (by omega)
  replace hHb := hHb.fr hf18 (by omega)
  replace hPd := hPd.fr hf18 (by omega)
  replace hOr := hOr.fr hf18 (by omega)
  replace hLn := hLn.fr hf18 (by omega)
  replace hOw := hOw.fr hf18 (by omega)
  replace hFu := hFu.fr hf18 (by omega)
  replace hO : Ob D y 9 [.ref (y + 1), .ref (y + 2), .int (J 0), .ref (y + 3), .ref (y + 4), .ref (y + 5), .int (J 0), .int (J 0), .ref (y + 6), .int (J 0), .int (J 0), .int (J 0), .int (J 0), .ref (y + 7), .ref (y + 8), .ref (y + 9), .null] H18 := hOn
  clear hOn
  refine g_aload_n (pc := 78) (pl := 0) X dX9_init_78 rfl ?_
  refine g_bipush (pc := 79) X dX9_init_79 (by decide +kernel) ?_
  refine g_newarr (pc := 81) (N := 120) (n2 := 10) (k2 := 13071) X (by decide +kernel) rfl (Nat.le_of_ble_eq_true rfl) (Nat.le_of_ble_eq_true rfl) (Nat.le_of_ble_eq_true rfl) dX9_init_81 rfl rfl (fun H19 hz19 hNew hon19 => ?_)
  rw [hsz] at hNew ⊢
  have hTk := hNew
  clear hNew
  have hf19 : Fr (Iv 0 0) 1 H18 H19 := Fr.new hz19 hon19
  replace hsz : H19.size = y + 11 := by have e := hf19.1; omega
  replace hO := hO.fr hf19 (by omega)
  replace hNw := hNw.fr hf19 (by omega)
  replace hPs := hPs.fr hf19 (by omega)
  replace hSl := hSl.fr hf19 (by omega)
  replace hHb := hHb.fr hf19 (by omega)
  replace hPd := hPd.fr hf19 (by omega)
  replace hOr := hOr.fr hf19 (by omega)
  replace hLn := hLn.fr hf19 (by omega)
  replace hOw := hOw.fr hf19 (by omega)
  replace hFu := hFu.fr hf19 (by omega)
  refine g_putF (pc := 83) X zW_X9_init_38 hnm rfl hO (by omega) rfl rfl rfl dX9_init_83 (fun H20 hOn hf20 => ?_)
  replace hsz : H20.size = y + 11 := by have e := hf20.1; omega
  replace hNw := hNw.fr hf20 (by omega)
  replace hPs := hPs.fr hf20 (by omega)
  replace hSl := hSl.fr hf20 (by omega)
  replace hHb := hHb.fr hf20 (by omega)
  replace hPd := hPd.fr hf20 (by omega)
  replace hOr := hOr.fr hf20 (by omega)
  replace hLn := hLn.fr hf20 (by omega)
  replace hOw := hOw.fr hf20 (by omega)
  replace hFu := hFu.fr hf20 (by omega)
  replace hTk := hTk.fr hf20 (by omega)
  replace hO : Ob D y 9 [.ref (y + 1), .ref (y + 2), .int (J 0), .ref (y + 3), .ref (y + 4), .ref (y + 5), .int (J 0), .int (J 0), .ref (y + 6), .int (J 0), .int (J 0), .int (J 0), .int (J 0), .ref (y + 7), .ref (y + 8), .ref (y + 9), .ref (y + 10)] H20 := hOn
  clear hOn
  refine g_aload_n (pc := 86) (pl := 0) X dX9_init_86 rfl ?_
  refine g_getf (pc := 87) X zF_X9_init_7 hO rfl dX9_init_87 ?_
  refine g_iconst (pc := 90) X dX9_init_90 ?_
  refine g_iconst (pc := 91) X dX9_init_91 ?_
  refine g_iastore (pc := 92) X hNw (by omega) (by omega) (by omega) (by omega) dX9_init_92 (fun H21 hNwn hf21 => ?_)
  replace hsz : H21.size = y + 11 := by have e := hf21.1; omega
  replace hO := hO.fr hf21 (by omega)
  replace hPs := hPs.fr hf21 (by omega)
  replace hSl := hSl.fr hf21 (by omega)
  replace hHb := hHb.fr hf21 (by omega)
  replace hPd := hPd.fr hf21 (by omega)
  replace hOr := hOr.fr hf21 (by omega)
  replace hLn := hLn.fr hf21 (by omega)
  replace hOw := hOw.fr hf21 (by omega)
  replace hFu := hFu.fr hf21 (by omega)
  replace hTk := hTk.fr hf21 (by omega)
  replace hNw := hNwn
  clear hNwn
  refine g_aload_n (pc := 93) (pl := 0) X dX9_init_93 rfl ?_
  refine g_getf (pc := 94) X zF_X9_init_7 hO rfl dX9_init_94 ?_
  refine g_iconst (pc := 97) X dX9_init_97 ?_
  refine g_bipush (pc := 98) X dX9_init_98 (by decide +kernel) ?_
  refine g_iastore (pc := 100) X hNw (by omega) (by omega) (by omega) (by omega) dX9_init_100 (fun H22 hNwn hf22 => ?_)
  replace hsz : H22.size = y + 11 := by have e := hf22.1; omega
  replace hO := hO.fr hf22 (by omega)
  replace hPs := hPs.fr hf22 (by omega)
  replace hSl := hSl.fr hf22 (by omega)
  replace hHb := hHb.fr hf22 (by omega)
  replace hPd := hPd.fr hf22 (by omega)
  replace hOr := hOr.fr hf22 (by omega)
  replace hLn := hLn.fr hf22 (by omega)
  replace hOw := hOw.fr hf22 (by omega)
  replace hFu := hFu.fr hf22 (by omega)
  replace hTk := hTk.fr hf22 (by omega)
  replace hNw := hNwn
  clear hNwn
  refine g_aload_n (pc := 101) (pl := 0) X dX9_init_101 rfl ?_
  refine g_getf (pc := 102) X zF_X9_init_7 hO rfl dX9_init_102 ?_
  refine g_iconst (pc := 105) X dX9_init_105 ?_
  refine g_iconst (pc := 106) X dX9_init_106 ?_
  refine g_iastore (pc := 107) X hNw (by omega) (by omega) (by omega) (by omega) dX9_init_107 (fun H23 hNwn hf23 => ?_)
  replace hsz : H23.size = y + 11 := by have e := hf23.1; omega
  replace hO := hO.fr hf23 (by omega)
  replace hPs := hPs.fr hf23 (by omega)
  replace hSl := hSl.fr hf23 (by omega)
  replace hHb := hHb.fr hf23 (by omega)
  replace hPd := hPd.fr hf23 (by omega)
  replace hOr := hOr.fr hf23 (by omega)
  replace hLn := hLn.fr hf23 (by omega)
  replace hOw := hOw.fr hf23 (by omega)
  replace hFu := hFu.fr hf23 (by omega)
  replace hTk := hTk.fr hf23 (by omega)
  replace hNw := hNwn
  clear hNwn
  refine g_vret (pc := 108) X R hH dX9_init_108 ?_
  have hNw2 : NwAt D y g0 H23 := Ia.congr hNw (fun j _ _ => by unfold up g0; (repeat' split) <;> first | rfl | (exfalso; omega))
  exact ⟨hO, hNw2, hPs, hSl, hHb, hPd, hOr, hLn, hOw, hFu, hTk, (Fr.trans hf1.any (Fr.trans (hf2.wide (by omega) (by omega)) (Fr.trans hf3.any (Fr.trans (hf4.wide (by omega) (by omega)) (Fr.trans hf5.any (Fr.trans (hf6.wide (by omega) (by omega)) (Fr.trans hf7.any (Fr.trans (hf8.wide (by omega) (by omega)) (Fr.trans hf9.any (Fr.trans (hf10.wide (by omega) (by omega)) (Fr.trans hf11.any (Fr.trans (hf12.wide (by omega) (by omega)) (Fr.trans hf13.any (Fr.trans (hf14.wide (by omega) (by omega)) (Fr.trans hf15.any (Fr.trans (hf16.wide (by omega) (by omega)) (Fr.trans hf17.any (Fr.trans (hf18.wide (by omega) (by omega)) (Fr.trans hf19.any (Fr.trans (hf20.wide (by omega) (by omega)) (Fr.trans (hf21.wide (by omega) (by omega)) (Fr.trans (hf22.wide (by omega) (by omega)) (hf23.wide (by omega) (by omega))))))))))))))))))))))))⟩

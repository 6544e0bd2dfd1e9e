abbrev rm_J6_bitCount_0f7a4 : Room := { frames := 0, cells := 0, slots := 0, locals := 0 }
set_option maxRecDepth 100000 in
theorem c_J6_bitCount (l : Launch) (D : zD) (base : Nat) (m : Nat) (hm : m < 65536) : Ct l yJ6_bitCount_0f7a4 wsJ6_bitCount_0f7a4 rm_J6_bitCount_0f7a4 D base [.int (J (m : Int))] (fun _ => True) (PI (fun H v H1 => H = H1 ∧ popc (m : Int) = v)) := by
  refine Ct.of (own := RJ6) (cc := cJ6_bitCount_0f7a4) (maxL := 1) (by decide +kernel) rfl (Nat.le_of_ble_eq_true rfl) rfl ?_
  intro K H X R hH hnm hP
  show G K 0 0 H 0 [(0, .int (J (m : Int)))] []
  have a1 := Nat.and_le_left (n := m / 2) (m := 1431655765)
  have hb1 : bn1 m ≤ m := Nat.sub_le _ _
  have e1 : (m : Int) - ((m / 2 &&& 1431655765 : Nat) : Int) = (bn1 m : Int) := by unfold bn1; omega
  have a2 := Nat.and_le_left (n := bn1 m) (m := 858993459)
  have a3 := Nat.and_le_left (n := bn1 m / 4) (m := 858993459)
  have e2 : ((bn1 m &&& 858993459 : Nat) : Int) + ((bn1 m / 4 &&& 858993459 : Nat) : Int) = (bn2 (bn1 m) : Int) := by unfold bn2; omega
  have hb2 : bn2 (bn1 m) ≤ 131072 := by unfold bn2; omega
  have a4 := Nat.and_le_left (n := bn2 (bn1 m) + bn2 (bn1 m) / 16) (m := 252645135)
  have hb3 : bn3 (bn2 (bn1 m)) ≤ 140000 := by unfold bn3; omega
  have e4 : (bn3 (bn2 (bn1 m)) : Int) + ((bn3 (bn2 (bn1 m)) / 256 : Nat) : Int) = (bn4 (bn3 (bn2 (bn1 m))) : Int) := by unfold bn4; omega
  have hb4 : bn4 (bn3 (bn2 (bn1 m))) ≤ 150000 := by unfold bn4; omega
  have e5 : (bn4 (bn3 (bn2 (bn1 m))) : Int) + ((bn4 (bn3 (bn2 (bn1 m))) / 65536 : Nat) : Int) = (bn5 (bn4 (bn3 (bn2 (bn1 m)))) : Int) := by unfold bn5; omega
  refine g_iload_n (pc := 0) (pl := 0) X dJ6_bitCount_0f7a4_0 rfl ?_
  refine g_iload_n (pc := 1) (pl := 0) X dJ6_bitCount_0f7a4_1 rfl ?_
  refine g_iconst (pc := 2) X dJ6_bitCount_0f7a4_2 ?_
  refine g_iushr (pc := 3) (z := J ((m / 2 : Nat) : Int)) X dJ6_bitCount_0f7a4_3 (by rw [← J_nat, ← J_nat]; exact (pk_ushrN (by omega) _ 1 (by decide +kernel)).trans (J_nat _)) ?_
  refine g_ldcw (pc := 4) (v := J 1431655765) X (by decide +kernel) dJ6_bitCount_0f7a4_4 ?_
  refine g_iand (pc := 7) (z := J ((m / 2 &&& 1431655765 : Nat) : Int)) X dJ6_bitCount_0f7a4_7 ((J_and (by omega) (by omega)).trans (by rw [Int.toNat_natCast]; rfl)) ?_
  refine g_isub (pc := 8) X dJ6_bitCount_0f7a4_8 ?_
  rw [e1]
  refine g_istore_n (pc := 9) (lv' := [(0, _)]) X dJ6_bitCount_0f7a4_9 (by decide) rfl ?_
  refine g_iload_n (pc := 10) (pl := 0) X dJ6_bitCount_0f7a4_10 rfl ?_
  refine g_ldcw (pc := 11) (v := J 858993459) X (by decide +kernel) dJ6_bitCount_0f7a4_11 ?_
  refine g_iand (pc := 14) (z := J ((bn1 m &&& 858993459 : Nat) : Int)) X dJ6_bitCount_0f7a4_14 ((J_and (by omega) (by omega)).trans (by rw [Int.toNat_natCast]; rfl)) ?_
  refine g_iload_n (pc := 15) (pl := 0) X dJ6_bitCount_0f7a4_15 rfl ?_
  refine g_iconst (pc := 16) X dJ6_bitCount_0f7a4_16 ?_
  refine g_iushr (pc := 17) (z := J ((bn1 m / 4 : Nat) : Int)) X dJ6_bitCount_0f7a4_17 (by rw [← J_nat, ← J_nat]; exact (pk_ushrN (by omega) _ 2 (by decide +kernel)).trans (J_nat _)) ?_
  refine g_ldcw (pc := 18) (v := J 858993459) X (by decide +kernel) dJ6_bitCount_0f7a4_18 ?_
  refine g_iand (pc := 21) (z := J ((bn1 m / 4 &&& 858993459 : Nat) : Int)) X dJ6_bitCount_0f7a4_21 ((J_and (by omega) (by omega)).trans (by rw [Int.toNat_natCast]; rfl)) ?_
  refine g_iadd (pc := 22) X dJ6_bitCount_0f7a4_22 ?_
  rw [e2]
  refine g_istore_n (pc := 23) (lv' := [(0, _)]) X dJ6_bitCount_0f7a4_23 (by decide) rfl ?_
  refine g_iload_n (pc := 24) (pl := 0) X dJ6_bitCount_0f7a4_24 rfl ?_
  refine g_iload_n (pc := 25) (pl := 0) X dJ6_bitCount_0f7a4_25 rfl ?_
  refine g_iconst (pc := 26) X dJ6_bitCount_0f7a4_26 ?_
  refine g_iushr (pc := 27) (z := J ((bn2 (bn1 m) / 16 : Nat) : Int)) X dJ6_bitCount_0f7a4_27 (by rw [← J_nat, ← J_nat]; exact (pk_ushrN (by omega) _ 4 (by decide +kernel)).trans (J_nat _)) ?_
  refine g_iadd (pc := 28) X dJ6_bitCount_0f7a4_28 ?_
  rw [show (bn2 (bn1 m) : Int) + ((bn2 (bn1 m) / 16 : Nat) : Int) = ((bn2 (bn1 m) + bn2 (bn1 m) / 16 : Nat) : Int) by omega]
  refine g_ldcw (pc := 29) (v := J 252645135) X (by decide +kernel) dJ6_bitCount_0f7a4_29 ?_
  refine g_iand (pc := 32) (z := J (bn3 (bn2 (bn1 m)) : Int)) X dJ6_bitCount_0f7a4_32 ((J_and (by omega) (by omega)).trans (by rw [Int.toNat_natCast]; rfl)) ?_
  refine g_istore_n (pc := 33) (lv' := [(0, _)]) X dJ6_bitCount_0f7a4_33 (by decide) rfl ?_
  refine g_iload_n (pc := 34) (pl := 0) X dJ6_bitCount_0f7a4_34 rfl ?_
  refine g_iload_n (pc := 35) (pl := 0) X dJ6_bitCount_0f7a4_35 rfl ?_
  refine g_bipush (pc := 36) X dJ6_bitCount_0f7a4_36 (by decide +kernel) ?_
  refine g_iushr (pc := 38) (z := J ((bn3 (bn2 (bn1 m)) / 256 : Nat) : Int)) X dJ6_bitCount_0f7a4_38 (by rw [← J_nat, ← J_nat]; exact (pk_ushrN (by omega) _ 8 (by decide +kernel)).trans (J_nat _)) ?_
  refine g_iadd (pc := 39) X dJ6_bitCount_0f7a4_39 ?_
  rw [e4]
  refine g_istore_n (pc := 40) (lv' := [(0, _)]) X dJ6_bitCount_0f7a4_40 (by decide) rfl ?_
  refine g_iload_n (pc := 41) (pl := 0) X dJ6_bitCount_0f7a4_41 rfl ?_
  refine g_iload_n (pc := 42) (pl := 0) X dJ6_bitCount_0f7a4_42 rfl ?_
  refine g_bipush (pc := 43) X dJ6_bitCount_0f7a4_43 (by decide +kernel) ?_
  refine g_iushr (pc := 45) (z := J ((bn4 (bn3 (bn2 (bn1 m))) / 65536 : Nat) : Int)) X dJ6_bitCount_0f7a4_45 (by rw [← J_nat, ← J_nat]; exact (pk_ushrN (by omega) _ 16 (by decide +kernel)).trans (J_nat _)) ?_
  refine g_iadd (pc := 46) X dJ6_bitCount_0f7a4_46 ?_
  rw [e5]
  refine g_istore_n (pc := 47) (lv' := [(0, _)]) X dJ6_bitCount_0f7a4_47 (by decide) rfl ?_
  refine g_iload_n (pc := 48) (pl := 0) X dJ6_bitCount_0f7a4_48 rfl ?_
  refine g_bipush (pc := 49) X dJ6_bitCount_0f7a4_49 (by decide +kernel) ?_
  refine g_iand (pc := 51) (z := J (bn6 (bn5 (bn4 (bn3 (bn2 (bn1 m))))) : Int)) X dJ6_bitCount_0f7a4_51 ((J_and (by omega) (by omega)).trans (by rw [Int.toNat_natCast]; rfl)) ?_
  refine g_iret (pc := 52) X R hH dJ6_bitCount_0f7a4_52 ?_
  exact ⟨rfl, by rw [popc_nat, Int.toNat_natCast, bn_all hm]⟩


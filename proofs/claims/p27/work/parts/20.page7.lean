/-- the state of a new page -/
def g0 : Int → Int := fun j => if j = 2 then 3 else if j = 3 then 12 else if j = 4 then 2 else 0
def z0 : Int → Int := fun _ => 0
def NtsI (D : zD) (q n : Nat) (H : Heap) : Prop := ∀ i : Int, 0 ≤ i → i < n → NoteAt D (q + 9 + 7 * i.toNat) (-6) 0 0 0 (fun _ => 0) (fun _ => 0) (fun _ => 0) H
theorem NtsI.fr {D : zD} {q n x y d : Nat} {H H' : Heap} (h : NtsI D q n H) (fr : Fr (Iv x y) d H H') (e : y ≤ q + 9 ∨ q + 9 + 7 * n ≤ x) : NtsI D q n H' :=
  fun i h0 h1 => (h i h0 h1).fr fr (by omega)

abbrev rm_X5_init : Room := { frames := 1, cells := 0, slots := 0, locals := 12 }
set_option maxRecDepth 100000 in
theorem c_X5_init (l : Launch) (D : zD) (base : Nat) (q : Nat)  : Ct l yX5_init wsX5_init rm_X5_init D base [.ref q] (fun _ => True) (PV (fun H H1 => H = H1 ∧ True)) := by
  refine Ct.of (own := RX5) (cc := cX5_init) (maxL := 1) (by decide +kernel) rfl (Nat.le_of_ble_eq_true rfl) rfl ?_
  intro K H X R hH hnm hP
  show G K 0 0 H 0 [(0, .ref q)] []
  refine g_aload_n (pc := 0) (pl := 0) X dX5_init_0 rfl ?_
  refine g_objInit (pc := 1) X (by decide +kernel) (by decide +kernel) (by decide +kernel) (by decide) (Nat.le_of_ble_eq_true rfl) dX5_init_1 ?_
  refine g_vret (pc := 4) X R hH dX5_init_4 ?_
  exact ⟨rfl, trivial⟩

abbrev rm_X7_init : Room := { frames := 1, cells := 0, slots := 0, locals := 12 }
set_option maxRecDepth 100000 in
theorem c_X7_init (l : Launch) (D : zD) (base : Nat) (q : Nat)  : Ct l yX7_init wsX7_init rm_X7_init D base [.ref q] (fun _ => True) (PV (fun H H1 => H = H1 ∧ True)) := by
  refine Ct.of (own := RX7) (cc := cX7_init) (maxL := 1) (by decide +kernel) rfl (Nat.le_of_ble_eq_true rfl) rfl ?_
  intro K H X R hH hnm hP
  show G K 0 0 H 0 [(0, .ref q)] []
  refine g_aload_n (pc := 0) (pl := 0) X dX7_init_0 rfl ?_
  refine g_objInit (pc := 1) X (by decide +kernel) (by decide +kernel) (by decide +kernel) (by decide) (Nat.le_of_ble_eq_true rfl) dX7_init_1 ?_
  refine g_vret (pc := 4) X R hH dX7_init_4 ?_
  exact ⟨rfl, trivial⟩

abbrev rm_X4_init : Room := { frames := 3, cells := 120, slots := 4266, locals := 53 }
theorem cs_X4_init_11 : zCI RX4 wsX4_init 11 yX6_init wsX6_init cX6_init 2 rm_X4_init rm_X6_init 1 := ⟨_, gX4_init_X6_init, Or.inl (by decide +kernel), by decide +kernel, by decide +kernel, rfl, rfl, ⟨by decide +kernel, by decide +kernel, by decide +kernel⟩, ⟨Nat.le_of_ble_eq_true rfl, Nat.le_of_ble_eq_true rfl⟩⟩
theorem zW_X4_init_14 : zW RX4 wsX4_init 4 0 14 true (tyX4 0) := ⟨RX4, TX4, 6, tyX4, rfl, by decide +kernel, by decide, by decide +kernel, tyX4_ok, nmX4, rfl, rfl, rfl⟩
theorem zW_X4_init_20 : zW RX4 wsX4_init 4 1 20 true (tyX4 1) := ⟨RX4, TX4, 6, tyX4, rfl, by decide +kernel, by decide, by decide +kernel, tyX4_ok, nmX4, rfl, rfl, rfl⟩
theorem zW_X4_init_23 : zW RX4 wsX4_init 4 2 23 true (tyX4 2) := ⟨RX4, TX4, 6, tyX4, rfl, by decide +kernel, by decide, by decide +kernel, tyX4_ok, nmX4, rfl, rfl, rfl⟩
theorem zW_X4_init_28 : zW RX4 wsX4_init 4 3 28 true (tyX4 3) := ⟨RX4, TX4, 6, tyX4, rfl, by decide +kernel, by decide, by decide +kernel, tyX4_ok, nmX4, rfl, rfl, rfl⟩
theorem cs_X4_init_34 : zCI RX4 wsX4_init 34 yX5_init wsX5_init cX5_init 1 rm_X4_init rm_X5_init 0 := ⟨_, gX4_init_X5_init_n34, Or.inr ⟨RX8, by decide +kernel⟩, by decide +kernel, by decide +kernel, rfl, rfl, ⟨by decide +kernel, by decide +kernel, by decide +kernel⟩, ⟨Nat.le_of_ble_eq_true rfl, Nat.le_of_ble_eq_true rfl⟩⟩
theorem zW_X4_init_35 : zW RX4 wsX4_init 4 5 35 true (tyX4 5) := ⟨RX4, TX4, 6, tyX4, rfl, by decide +kernel, by decide, by decide +kernel, tyX4_ok, nmX4, rfl, rfl, rfl⟩
theorem zF_X4_init_14 : zF RX4 wsX4_init 4 0 14 := ⟨RX4, TX4, 6, rfl, by decide +kernel, by decide, by decide +kernel⟩
theorem cs_X4_init_39 : zCV RX4 wsX4_init 39 6 yX6_add wsX6_add cX6_add 2 none rm_X4_init rm_X6_add 1 := ⟨_, _, gX4_init_X6_add, rfl, ⟨by decide +kernel, by decide +kernel, by decide +kernel⟩, ⟨Nat.le_of_ble_eq_true rfl, Nat.le_of_ble_eq_true rfl⟩, rfl, rfl⟩
theorem zF_X4_init_28 : zF RX4 wsX4_init 4 3 28 := ⟨RX4, TX4, 6, rfl, by decide +kernel, by decide, by decide +kernel⟩
theorem cs_X4_init_42 : zCI RX4 wsX4_init 42 yX2_init wsX2_init cX2_init 1 rm_X4_init rm_X2_init 0 := ⟨_, gX4_init_X2_init_n42, Or.inr ⟨RX8, by decide +kernel⟩, by decide +kernel, by decide +kernel, rfl, rfl, ⟨by decide +kernel, by decide +kernel, by decide +kernel⟩, ⟨Nat.le_of_ble_eq_true rfl, Nat.le_of_ble_eq_true rfl⟩⟩
set_option maxRecDepth 100000 in
theorem c_X4_init (l : Launch) (D : zD) (base : Nat) (q : Nat) (hq : base ≤ q) : Ct l yX4_init wsX4_init rm_X4_init D base [.ref q] (fun H => Ob D q 4 [.null, .null, .null, .null, .int (J 0), .null] H ∧ H.size = q + 1) (PV (fun H H1 => PageAt D q g0 H1 ∧ Fr (Iv q (q + 121)) 120 H H1)) := by
  refine Ct.of (own := RX4) (cc := cX4_init) (maxL := 2) (by decide +kernel) rfl (Nat.le_of_ble_eq_true rfl) rfl ?_
  intro K H X R hH hnm hP
  show G K 0 0 H 0 [(0, .ref q)] []
  obtain ⟨hO, hsz⟩ := hP
  refine g_aload_n (pc := 0) (pl := 0) X dX4_init_0 rfl ?_
  refine g_objInit (pc := 1) X (by decide +kernel) (by decide +kernel) (by decide +kernel) (by decide) (Nat.le_of_ble_eq_true rfl) dX4_init_1 ?_
  refine g_aload_n (pc := 4) (pl := 0) X dX4_init_4 rfl ?_
  refine g_new (pc := 5) (ci := 6) (C := RX6) (T := TX6) (N := 2) (tys := tyX6) (fs := [.null, .int (J 0)]) (n2 := 1) (k2 := 2) X rfl (by decide +kernel) tyX6_ok (by decide +kernel) (by decide +kernel) (by decide +kernel) (by decide +kernel) (Nat.le_of_ble_eq_true rfl) (Nat.le_of_ble_eq_true rfl) dX4_init_5 rfl rfl (fun H1 hz1 hNew hon1 => ?_)
  rw [hsz] at hNew ⊢
  have hN1 := hNew
  clear hNew
  have hf1 : Fr (Iv 0 0) 1 H H1 := Fr.new hz1 hon1
  replace hsz : H1.size = q + 2 := by have e := hf1.1; omega
  replace hO := hO.fr hf1 (by omega)
  refine g_dup (pc := 8) X dX4_init_8 rfl ?_
  refine g_iconst (pc := 9) X dX4_init_9 ?_
  refine gIv (pc := 10) (n2 := 2) (k2 := 82) X cs_X4_init_11 (c_X6_init (zl K) D base (q + 1) 3 (by omega) (by omega)) rfl (by omega) ⟨hN1, hsz⟩ rfl ⟨(Nat.le_of_ble_eq_true rfl), (Nat.le_of_ble_eq_true rfl)⟩ dX4_init_10 (Nat.le_of_ble_eq_true rfl) rfl rfl (fun H2 hp10 hs10 => ?_)
  obtain ⟨hS, hfa⟩ := hp10
  replace hsz : H2.size = q + 3 := by have e := hfa.1; omega
  replace hO := hO.fr hfa (by omega)
  refine g_putF (pc := 13) X zW_X4_init_14 hnm rfl hO (by omega) rfl rfl rfl dX4_init_13 (fun H3 hOn hf3 => ?_)
  replace hsz : H3.size = q + 3 := by have e := hf3.1; omega
  replace hS := hS.fr hf3 (by omega)
  replace hO : Ob D q 4 [.ref (q + 1), .null, .null, .null, .int (J 0), .null] H3 := hOn
  clear hOn
  refine g_aload_n (pc := 16) (pl := 0) X dX4_init_16 rfl ?_
  refine g_new (pc := 17) (ci := 6) (C := RX6) (T := TX6) (N := 2) (tys := tyX6) (fs := [.null, .int (J 0)]) (n2 := 3) (k2 := 84) X rfl (by decide +kernel) tyX6_ok (by decide +kernel) (by decide +kernel) (by decide +kernel) (by decide +kernel) (Nat.le_of_ble_eq_true rfl) (Nat.le_of_ble_eq_true rfl) dX4_init_17 rfl rfl (fun H4 hz4 hNew hon4 => ?_)
  rw [hsz] at hNew ⊢
  have hN3 := hNew
  clear hNew
  have hf4 : Fr (Iv 0 0) 1 H3 H4 := Fr.new hz4 hon4
  replace hsz : H4.size = q + 4 := by have e := hf4.1; omega
  replace hO := hO.fr hf4 (by omega)
  replace hS := hS.fr hf4 (by omega)
  refine g_dup (pc := 20) X dX4_init_20 rfl ?_
  refine g_bipush (pc := 21) X dX4_init_21 (by decide +kernel) ?_
  refine gIv (pc := 23) (n2 := 4) (k2 := 164) X cs_X4_init_11 (c_X6_init (zl K) D base (q + 3) 60 (by omega) (by omega)) rfl (by omega) ⟨hN3, hsz⟩ rfl ⟨(Nat.le_of_ble_eq_true rfl), (Nat.le_of_ble_eq_true rfl)⟩ dX4_init_23 (Nat.le_of_ble_eq_true rfl) rfl rfl (fun H5 hp23 hs23 => ?_)
  obtain ⟨hL, hfb⟩ := hp23
  replace hsz : H5.size = q + 5 := by have e := hfb.1; omega
  replace hO := hO.fr hfb (by omega)
  replace hS := hS.fr hfb (by omega)
  refine g_putF (pc := 26) X zW_X4_init_20 hnm rfl hO (by omega) rfl rfl rfl dX4_init_26 (fun H6 hOn hf6 => ?_)
  replace hsz : H6.size = q + 5 := by have e := hf6.1; omega
  replace hS := hS.fr hf6 (by omega)
  replace hL := hL.fr hf6 (by omega)
  replace hO : Ob D q 4 [.ref (q + 1), .ref (q + 3), .null, .null, .int (J 0), .null] H6 := hOn
  clear hOn
  refine g_aload_n (pc := 29) (pl := 0) X dX4_init_29 rfl ?_
  refine g_new (pc := 30) (ci := 6) (C := RX6) (T := TX6) (N := 2) (tys := tyX6) (fs := [.null, .int (J 0)]) (n2 := 5) (k2 := 166) X rfl (by decide +kernel) tyX6_ok (by decide +kernel) (by decide +kernel) (by decide +kernel) (by decide +kernel) (Nat.le_of_ble_eq_true rfl) (Nat.le_of_ble_eq_true rfl) dX4_init_30 rfl rfl (fun H7 hz7 hNew hon7 => ?_)
  rw [hsz] at hNew ⊢
  have hN5 := hNew
  clear hNew
  have hf7 : Fr (Iv 0 0) 1 H6 H7 := Fr.new hz7 hon7
  replace hsz : H7.size = q + 6 := by have e := hf7.1; omega
  replace hO := hO.fr hf7 (by omega)
  replace hS := hS.fr hf7 (by omega)
  replace hL := hL.fr hf7 (by omega)
  refine g_dup (pc := 33) X dX4_init_33 rfl ?_
  refine g_bipush (pc := 34) X dX4_init_34 (by decide +kernel) ?_
  refine gIv (pc := 36) (n2 := 6) (k2 := 246) X cs_X4_init_11 (c_X6_init (zl K) D base (q + 5) 60 (by omega) (by omega)) rfl (by omega) ⟨hN5, hsz⟩ rfl ⟨(Nat.le_of_ble_eq_true rfl), (Nat.le_of_ble_eq_true rfl)⟩ dX4_init_36 (Nat.le_of_ble_eq_true rfl) rfl rfl (fun H8 hp36 hs36 => ?_)
  obtain ⟨hW, hfc⟩ := hp36
  replace hsz : H8.size = q + 7 := by have e := hfc.1; omega
  replace hO := hO.fr hfc (by omega)
  replace hS := hS.fr hfc (by omega)
  replace hL := hL.fr hfc (by omega)
  refine g_putF (pc := 39) X zW_X4_init_23 hnm rfl hO (by omega) rfl rfl rfl dX4_init_39 (fun H9 hOn hf9 => ?_)
  replace hsz : H9.size = q + 7 := by have e := hf9.1; omega
  replace hS := hS.fr hf9 (by omega)
  replace hL := hL.fr hf9 (by omega)
  replace hW := hW.fr hf9 (by omega)
  replace hO : Ob D q 4 [.ref (q + 1), .ref (q + 3), .ref (q + 5), .null, .int (J 0), .null] H9 := hOn
  clear hOn
  refine g_aload_n (pc := 42) (pl := 0) X dX4_init_42 rfl ?_
  refine g_bipush (pc := 43) X dX4_init_43 (by decide +kernel) ?_
  refine g_anewarr (pc := 45) (N := 16) (t := 2) (C := "AnchoredNotes$Note") (n2 := 7) (k2 := 262) X (by decide) (by decide +kernel) rfl (by decide) (Nat.le_of_ble_eq_true rfl) (Nat.le_of_ble_eq_true rfl) dX4_init_45 rfl rfl (fun H10 hz10 hNew hon10 => ?_)
  rw [hsz] at hNew ⊢
  have hRa := hNew
  clear hNew
  have hf10 : Fr (Iv 0 0) 1 H9 H10 := Fr.new hz10 hon10
  replace hsz : H10.size = q + 8 := by have e := hf10.1; omega
  replace hO := hO.fr hf10 (by omega)
  replace hS := hS.fr hf10 (by omega)
  replace hL := hL.fr hf10 (by omega)
  replace hW := hW.fr hf10 (by omega)
  refine g_putF (pc := 48) X zW_X4_init_28 hnm rfl hO (by omega) rfl rfl rfl dX4_init_48 (fun H11 hOn hf11 => ?_)
  replace hsz : H11.size = q + 8 := by have e := hf11.1; omega
  replace hRa := hRa.fr hf11 (by omega)
  replace hS := hS.fr hf11 (by omega)
  replace hL := hL.fr hf11 (by omega)
  replace hW := hW.fr hf11 (by omega)
  replace hO : Ob D q 4 [.ref (q + 1), .ref (q + 3), .ref (q + 5), .ref (q + 7), .int (J 0), .null] H11 := hOn
  clear hOn
  refine g_aload_n (pc := 51) (pl := 0) X dX4_init_51 rfl ?_
  refine g_new (pc := 52) (ci := 5) (C := RX5) (T := TX5) (N := 4) (tys := tyX5) (fs := [.int (J 0), .int (J 0), .int (J 0), .int (J 0)]) (n2 := 8) (k2 := 266) X rfl (by decide +kernel) tyX5_ok (by decide +kernel) (by decide +kernel) (by decide +kernel) (by decide +kernel) (Nat.le_of_ble_eq_true rfl) (Nat.le_of_ble_eq_true rfl) dX4_init_52 rfl rfl (fun H12 hz12 hNew hon12 => ?_)
  rw [hsz] at hNew ⊢
  have hQ := hNew
  clear hNew
  have hf12 : Fr (Iv 0 0) 1 H11 H12 := Fr.new hz12 hon12
  replace hsz : H12.size = q + 9 := by have e := hf12.1; omega
  replace hO := hO.fr hf12 (by omega)
  replace hRa := hRa.fr hf12 (by omega)
  replace hS := hS.fr hf12 (by omega)
  replace hL := hL.fr hf12 (by omega)
  replace hW := hW.fr hf12 (by omega)
  refine g_dup (pc := 55) X dX4_init_55 rfl ?_
  refine gIv (pc := 56) (n2 := 8) (k2 := 266) X cs_X4_init_34 (c_X5_init (zl K) D base (q + 8)) rfl (by omega) trivial rfl ⟨(Nat.le_of_ble_eq_true rfl), (Nat.le_of_ble_eq_true rfl)⟩ dX4_init_56 (Nat.le_of_ble_eq_true rfl) rfl rfl (fun H13 hp56 hs56 => ?_)
  obtain ⟨rfl, -⟩ := hp56
  refine g_putF (pc := 59) X zW_X4_init_35 hnm rfl hO (by omega) rfl rfl rfl dX4_init_59 (fun H13 hOn hf13 => ?_)
  replace hsz : H13.size = q + 9 := by have e := hf13.1; omega
  replace hQ := hQ.fr hf13 (by omega)
  replace hRa := hRa.fr hf13 (by omega)
  replace hS := hS.fr hf13 (by omega)
  replace hL := hL.fr hf13 (by omega)
  replace hW := hW.fr hf13 (by omega)
  replace hO : Ob D q 4 [.ref (q + 1), .ref (q + 3), .ref (q + 5), .ref (q + 7), .int (J 0), .ref (q + 8)] H13 := hOn
  clear hOn
  refine g_aload_n (pc := 62) (pl := 0) X dX4_init_62 rfl ?_
  refine g_getf (pc := 63) X zF_X4_init_14 hO rfl dX4_init_63 ?_
  refine g_iconst (pc := 66) X dX4_init_66 ?_
  obtain ⟨hRO, -⟩ := id hS
  refine gVv (pc := 67) (n2 := 8) (k2 := 266) X cs_X4_init_39 (c_X6_add (zl K) D base (q + 1) 3 (0) (fun _ => 0) 3 (by omega) (by omega)) rfl hRO (by omega) hS rfl ⟨Nat.le_of_ble_eq_true rfl, Nat.le_of_ble_eq_true rfl⟩ dX4_init_67 (Nat.le_of_ble_eq_true rfl) rfl rfl (fun H14 hp67 hs67 => ?_)
  obtain ⟨hSn, hfs0⟩ := hp67
  replace hsz : H14.size = q + 9 := by have e := hfs0.1; omega
  replace hO := hO.fr hfs0 (by omega)
  replace hQ := hQ.fr hfs0 (by omega)
  replace hRa := hRa.fr hfs0 (by omega)
  replace hL := hL.fr hfs0 (by omega)
  replace hW := hW.fr hfs0 (by omega)
  replace hS := hSn
  clear hSn
  refine g_aload_n (pc := 70) (pl := 0) X dX4_init_70 rfl ?_
  refine g_getf (pc := 71) X zF_X4_init_14 hO rfl dX4_init_71 ?_
  refine g_bipush (pc := 74) X dX4_init_74 (by decide +kernel) ?_
  obtain ⟨hRO, -⟩ := id hS
  refine gVv (pc := 76) (n2 := 8) (k2 := 266) X cs_X4_init_39 (c_X6_add (zl K) D base (q + 1) 3 (1) (up (fun _ => 0) 0 3) 12 (by omega) (by omega)) rfl hRO (by omega) hS rfl ⟨Nat.le_of_ble_eq_true rfl, Nat.le_of_ble_eq_true rfl⟩ dX4_init_76 (Nat.le_of_ble_eq_true rfl) rfl rfl (fun H15 hp76 hs76 => ?_)
  obtain ⟨hSn, hfs1⟩ := hp76
  replace hsz : H15.size = q + 9 := by have e := hfs1.1; omega
  replace hO := hO.fr hfs1 (by omega)
  replace hQ := hQ.fr hfs1 (by omega)
  replace hRa := hRa.fr hfs1 (by omega)
  replace hL := hL.fr hfs1 (by omega)
  replace hW := hW.fr hfs1 (by omega)
  replace hS := hSn
  clear hSn
  refine g_aload_n (pc := 79) (pl := 0) X dX4_init_79 rfl ?_
  refine g_getf (pc := 80) X zF_X4_init_14 hO rfl dX4_init_80 ?_
  refine g_iconst (pc := 83) X dX4_init_83 ?_
  obtain ⟨hRO, -⟩ := id hS
  refine gVv (pc := 84) (n2 := 8) (k2 := 266) X cs_X4_init_39 (c_X6_add (zl K) D base (q + 1) 3 (2) (up (up (fun _ => 0) 0 3) 1 12) 2 (by omega) (by omega)) rfl hRO (by omega) hS rfl ⟨Nat.le_of_ble_eq_true rfl, Nat.le_of_ble_eq_true rfl⟩ dX4_init_84 (Nat.le_of_ble_eq_true rfl) rfl rfl (fun H16 hp84 hs84 => ?_)
  obtain ⟨hSn, hfs2⟩ := hp84
  replace hsz : H16.size = q + 9 := by have e := hfs2.1; omega
  replace hO := hO.fr hfs2 (by omega)
  replace hQ := hQ.fr hfs2 (by omega)
  replace hRa := hRa.fr hfs2 (by omega)
  replace hL := hL.fr hfs2 (by omega)
  replace hW := hW.fr hfs2 (by omega)
  replace hS := hSn
  clear hSn
  refine g_iconst (pc := 87) X dX4_init_87 ?_
  refine g_istore_n (pc := 88) (lv' := [(1, _), (0, _)]) X dX4_init_88 (by decide) rfl ?_
  have hL89 : ∀ (fu : Nat) (n : Nat) (ni : Int) (Hx : Heap), 16 - n < fu → (n ≤ 16) → (ni = (n : Int)) → (Hx.size = q + 7 * n + 9) → (Ob D q 4 [.ref (q + 1), .ref (q + 3), .ref (q + 5), .ref (q + 7), .int (J 0), .ref (q + 8)] Hx) → (RowAt D (q + 1) 3 3 (fun i => g0 (2 + i)) Hx) → (RowAt D (q + 3) 60 0 (fun _ => 0) Hx) → (RowAt D (q + 5) 60 0 (fun _ => 0) Hx) → (Ra D (q + 7) 2 16 (fun i => if i < (n : Int) then some (q + 9 + 7 * i.toNat) else none) Hx) → (Ob D (q + 8) 5 [.int (J 0), .int (J 0), .int (J 0), .int (J 0)] Hx) → (NtsI D q n Hx) → (Fr (Iv q (q + 121)) (8 + 7 * n) H Hx) → G K (8 + 7 * n) (266 + 250 * n) Hx 89 [(0, .ref q), (1, .int (J ni))] [] := by
    intro fu
    induction fu with
    | zero => intro n ni Hx hm; exact absurd hm (Nat.not_lt_zero _)
    | succ fu ih89 =>
      intro n ni Hx hm h1 he hsz hO hS hL hW hRa hQ hNt h3
      subst he
      refine g_iload_n (pc := 89) (pl := 1) X dX4_init_89 rfl ?_
      refine g_aload_n (pc := 90) (pl := 0) X dX4_init_90 rfl ?_
      refine g_getf (pc := 91) X zF_X4_init_28 hO rfl dX4_init_91 ?_
      refine g_alenR (pc := 94) X hRa (by decide) dX4_init_94 ?_
      refine g_icmp_ge (pc := 95) X 117 dX4_init_95 (by decide) (by omega) (by omega) (fun c95 => ?_) (fun c95 => ?_)
      · skip
        refine G.widen (n' := 120) (k' := 4266) (by omega) (by omega) ?_
        refine g_vret (pc := 117) X R hH dX4_init_117 ?_
        have en : n = 16 := by omega
        subst en
        refine ⟨⟨hO, hS, hL.congr (fun i h0 h1 => by omega), hW.congr (fun i h0 h1 => by omega), ⟨fun i => i.toNat, hRa.congr (fun i h0 h1 => if_pos (by omega)), ⟨fun i h0 h1 => by show i.toNat < 16; omega, fun i j a0 a1 b0 b1 e => by have e2 : i.toNat = j.toNat := e; omega⟩, fun i h0 h1 => ⟨-6, 0, 0, 0, _, _, _, hNt i h0 (by omega), by omega, fun z => absurd z (by show ¬ i < (0 : Int); omega)⟩⟩, ⟨0, 0, 0, 0, hQ⟩, by decide, by decide⟩, h3⟩
      · skip
        refine g_aload_n (pc := 98) (pl := 0) X dX4_init_98 rfl ?_
        refine g_getf (pc := 99) X zF_X4_init_28 hO rfl dX4_init_99 ?_
        refine g_iload_n (pc := 102) (pl := 1) X dX4_init_102 rfl ?_
        refine g_new (pc := 103) (ci := 2) (C := RX2) (T := TX2) (N := 4) (tys := tyX2) (fs := [.int (J 0), .null, .null, .null]) (n2 := 8 + 7 * n + 1) (k2 := 266 + 250 * n + 4) X rfl (by decide +kernel) tyX2_ok (by decide +kernel) (by decide +kernel) (by decide +kernel) (by decide +kernel) (by show 8 + 7 * n + 1 ≤ 120; omega) (by show 266 + 250 * n + 4 ≤ 4266; omega) dX4_init_103 rfl rfl (fun H17 hz17 hNew hon17 => ?_)
        rw [hsz] at hNew ⊢
        have hN := hNew
        clear hNew
        have hf17 : Fr (Iv 0 0) 1 Hx H17 := Fr.new hz17 hon17
        replace hsz : H17.size = q + 7 * n + 10 := by have e := hf17.1; omega
        replace hO := hO.fr hf17 (by omega)
        replace hQ := hQ.fr hf17 (by omega)
        replace hRa := hRa.fr hf17 (by omega)
        replace hS := hS.fr hf17 (by omega)
        replace hL := hL.fr hf17 (by omega)
        replace hW := hW.fr hf17 (by omega)
        replace hNt := hNt.fr hf17 (by omega)
        refine g_dup (pc := 106) X dX4_init_106 rfl ?_
        refine gIv (pc := 107) (n2 := 8 + 7 * n + 1 + 6) (k2 := 266 + 250 * n + 4 + 246) X cs_X4_init_42 (c_X2_init (zl K) D base (q + 7 * n + 9) (by omega)) rfl (by omega) ⟨hN, hsz⟩ rfl ⟨(by show 8 + 7 * n + 1 + 6 ≤ 120; omega), (by show 266 + 250 * n + 4 + 246 ≤ 4266; omega)⟩ dX4_init_107 (Nat.le_of_ble_eq_true rfl) rfl rfl (fun H18 hp107 hs107 => ?_)
        obtain ⟨hNn, hfd⟩ := hp107
        replace hsz : H18.size = q + 7 * n + 16 := by have e := hfd.1; omega
        replace hO := hO.fr hfd (by omega)
        replace hQ := hQ.fr hfd (by omega)
        replace hRa := hRa.fr hfd (by omega)
        replace hS := hS.fr hfd (by omega)
        replace hL := hL.fr hfd (by omega)
        replace hW := hW.fr hfd (by omega)
        replace hNt := hNt.fr hfd (by omega)
        obtain ⟨hNO, -⟩ := id hNn
        refine g_aastore (pc := 110) X hRa (by decide) hNO (by omega) (by omega) (by omega) (by omega) dX4_init_110 (fun H19 hRan hf19 => ?_)
        replace hsz : H19.size = q + 7 * n + 16 := by have e := hf19.1; omega
        replace hO := hO.fr hf19 (by omega)
        replace hQ := hQ.fr hf19 (by omega)
        replace hNO := hNO.fr hf19 (by omega)
        replace hS := hS.fr hf19 (by omega)
        replace hL := hL.fr hf19 (by omega)
        replace hW := hW.fr hf19 (by omega)
        replace hNt := hNt.fr hf19 (by omega)
        replace hNn := hNn.fr hf19 (by omega)
        replace hRa := hRan
        clear hRan
        refine g_iinc (pc := 111) (pl := 1) (x := (n : Int)) (lv' := [(1, _), (0, _)]) X dX4_init_111 rfl (by decide) rfl ?_
        refine g_goto (pc := 114) X 89 dX4_init_114 (by decide) ?_
        refine G.pick [1, 0] (lv' := [(0, _), (1, _)]) rfl ?_
        refine G.widen (n' := 8 + 7 * (n + 1)) (k' := 266 + 250 * (n + 1)) (by omega) (by omega) ?_
        have hfz : Fr (Iv q (q + 121)) _ H H19 := (Fr.trans (h3.wide (by omega) (by omega)) (Fr.trans hf17.any (Fr.trans (hfd.wide (by omega) (by omega)) (hf19.wide (by omega) (by omega)))))
        exact ih89 (n + 1) _ H19 (by omega) (by omega) (by omega) (by omega) hO hS hL hW (hRa.congr (fun i h0 h1 => by simp only [up]; by_cases c : i = (n : Int); (rw [if_pos c, if_pos (by omega), show q + 7 * n + 9 = q + 9 + 7 * i.toNat by omega]); (rw [if_neg c]; by_cases c2 : i < (n : Int); (rw [if_pos c2, if_pos (by omega)]); (rw [if_neg c2, if_neg (by omega)])))) hQ (fun i h0 h1 => by by_cases c : i = (n : Int); (rw [show q + 9 + 7 * i.toNat = q + 7 * n + 9 by omega]; exact hNn); (exact hNt i h0 (by omega))) (by first | exact hfz | (refine (show 8 + 7 * (n + 1) = _ from ?_) ▸ hfz; omega))
  refine G.pick [1, 0] (lv' := [(0, _), (1, _)]) rfl ?_
  refine G.widen (n' := 8 + 7 * 0) (k' := 266 + 250 * 0) (by omega) (by omega) ?_
  have hfz : Fr (Iv q (q + 121)) _ H H16 := (Fr.trans hf1.any (Fr.trans (hfa.wide (by omega) (by omega)) (Fr.trans (hf3.wide (by omega) (by omega)) (Fr.trans hf4.any (Fr.trans (hfb.wide (by omega) (by omega)) (Fr.trans (hf6.wide (by omega) (by omega)) (Fr.trans hf7.any (Fr.trans (hfc.wide (by omega) (by omega)) (Fr.trans (hf9.wide (by omega) (by omega)) (Fr.trans hf10.any (Fr.trans (hf11.wide (by omega) (by omega)) (Fr.trans hf12.any (Fr.trans (hf13.wide (by omega) (by omega)) (Fr.trans (hfs0.wide (by omega) (by omega)) (Fr.trans (hfs1.wide (by omega) (by omega)) (hfs2.wide (by omega) (by omega)))))))))))))))))
  exact hL89 _ 0 _ H16 (Nat.lt_succ_self _) (by omega) rfl hsz hO (hS.congr (fun i h0 h1 => by rcases (show i = 0 ∨ i = 1 ∨ i = 2 by omega) with rfl | rfl | rfl <;> rfl)) hL hW (hRa.congr (fun i h0 h1 => (if_neg (by omega)).symm)) hQ (fun i h0 h1 => by omega) hfz


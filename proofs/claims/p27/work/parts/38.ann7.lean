theorem PgsOk.none {D : zD} {lo : Nat} {N : Int} {H : Heap} : PgsOk D lo N (fun _ => none) H := ⟨fun i a _ _ h => (by cases h), fun i j a b _ _ _ _ _ h => (by cases h)⟩

abbrev rm_X8_init : Room := { frames := 4, cells := 139, slots := 4789, locals := 74 }
theorem cs_X8_init_9 : zCI RX8 wsX8_init 9 yX4_init wsX4_init cX4_init 2 rm_X8_init rm_X4_init 0 := ⟨_, gX8_init_X4_init, Or.inl (by decide +kernel), by decide +kernel, by decide +kernel, rfl, rfl, ⟨by decide +kernel, by decide +kernel, by decide +kernel⟩, ⟨Nat.le_of_ble_eq_true rfl, Nat.le_of_ble_eq_true rfl⟩⟩
theorem zW_X8_init_10 : zW RX8 wsX8_init 8 0 10 true (tyX8 0) := ⟨RX8, TX8, 7, tyX8, rfl, by decide +kernel, by decide, by decide +kernel, tyX8_ok, nmX8, rfl, rfl, rfl⟩
theorem cs_X8_init_18 : zCI RX8 wsX8_init 18 yX1_init wsX1_init cX1_init 1 rm_X8_init rm_X1_init 0 := ⟨_, gX8_init_X1_init_n18, Or.inr ⟨RX8, by decide +kernel⟩, by decide +kernel, by decide +kernel, rfl, rfl, ⟨by decide +kernel, by decide +kernel, by decide +kernel⟩, ⟨Nat.le_of_ble_eq_true rfl, Nat.le_of_ble_eq_true rfl⟩⟩
theorem zW_X8_init_19 : zW RX8 wsX8_init 8 1 19 true (tyX8 1) := ⟨RX8, TX8, 7, tyX8, rfl, by decide +kernel, by decide, by decide +kernel, tyX8_ok, nmX8, rfl, rfl, rfl⟩
theorem cs_X8_init_25 : zCI RX8 wsX8_init 25 yX7_init wsX7_init cX7_init 1 rm_X8_init rm_X7_init 0 := ⟨_, gX8_init_X7_init_n25, Or.inr ⟨RX8, by decide +kernel⟩, by decide +kernel, by decide +kernel, rfl, rfl, ⟨by decide +kernel, by decide +kernel, by decide +kernel⟩, ⟨Nat.le_of_ble_eq_true rfl, Nat.le_of_ble_eq_true rfl⟩⟩
theorem zW_X8_init_26 : zW RX8 wsX8_init 8 2 26 true (tyX8 2) := ⟨RX8, TX8, 7, tyX8, rfl, by decide +kernel, by decide, by decide +kernel, tyX8_ok, nmX8, rfl, rfl, rfl⟩
theorem cs_X8_init_32 : zCI RX8 wsX8_init 32 yX6_init wsX6_init cX6_init 2 rm_X8_init rm_X6_init 1 := ⟨_, gX8_init_X6_init, Or.inl (by decide +kernel), by decide +kernel, by decide +kernel, rfl, rfl, ⟨by decide +kernel, by decide +kernel, by decide +kernel⟩, ⟨Nat.le_of_ble_eq_true rfl, Nat.le_of_ble_eq_true rfl⟩⟩
theorem zW_X8_init_35 : zW RX8 wsX8_init 8 3 35 true (tyX8 3) := ⟨RX8, TX8, 7, tyX8, rfl, by decide +kernel, by decide, by decide +kernel, tyX8_ok, nmX8, rfl, rfl, rfl⟩
theorem cs_X8_init_41 : zCI RX8 wsX8_init 41 yX3_init wsX3_init cX3_init 1 rm_X8_init rm_X3_init 0 := ⟨_, gX8_init_X3_init_n41, Or.inr ⟨RX8, by decide +kernel⟩, by decide +kernel, by decide +kernel, rfl, rfl, ⟨by decide +kernel, by decide +kernel, by decide +kernel⟩, ⟨Nat.le_of_ble_eq_true rfl, Nat.le_of_ble_eq_true rfl⟩⟩
theorem zW_X8_init_42 : zW RX8 wsX8_init 8 4 42 true (tyX8 4) := ⟨RX8, TX8, 7, tyX8, rfl, by decide +kernel, by decide, by decide +kernel, tyX8_ok, nmX8, rfl, rfl, rfl⟩
theorem cs_X8_init_48 : zCI RX8 wsX8_init 48 yX0_init wsX0_init cX0_init 1 rm_X8_init rm_X0_init 0 := ⟨_, gX8_init_X0_init_n48, Or.inr ⟨RX8, by decide +kernel⟩, by decide +kernel, by decide +kernel, rfl, rfl, ⟨by decide +kernel, by decide +kernel, by decide +kernel⟩, ⟨Nat.le_of_ble_eq_true rfl, Nat.le_of_ble_eq_true rfl⟩⟩
theorem zW_X8_init_49 : zW RX8 wsX8_init 8 5 49 true (tyX8 5) := ⟨RX8, TX8, 7, tyX8, rfl, by decide +kernel, by decide, by decide +kernel, tyX8_ok, nmX8, rfl, rfl, rfl⟩
theorem zW_X8_init_53 : zW RX8 wsX8_init 8 6 53 true (tyX8 6) := ⟨RX8, TX8, 7, tyX8, rfl, by decide +kernel, by decide, by decide +kernel, tyX8_ok, nmX8, rfl, rfl, rfl⟩
set_option maxRecDepth 100000 in
theorem c_X8_init (l : Launch) (D : zD) (base : Nat) (x : Nat) (hq : base ≤ x) : Ct l yX8_init wsX8_init rm_X8_init D base [.ref x] (fun H => Ob D x 8 [.null, .null, .null, .null, .null, .null, .null] H ∧ H.size = x + 1) (PV (fun H H1 => AnAt D x (x + 140) 0 (fun _ => none) (fun _ => none) (fun _ => g0) (fun _ => g0) g0 0 (fun _ => 0) H1 ∧ Fr (Iv x (x + 140)) 139 H H1)) := by
  refine Ct.of (own := RX8) (cc := cX8_init) (maxL := 1) (by decide +kernel) rfl (Nat.le_of_ble_eq_true rfl) rfl ?_
  intro K H X R hH hnm hP
  show G K 0 0 H 0 [(0, .ref x)] []
  obtain ⟨hO, hsz⟩ := hP
  refine g_aload_n (pc := 0) (pl := 0) X dX8_init_0 rfl ?_
  refine g_objInit (pc := 1) X (by decide +kernel) (by decide +kernel) (by decide +kernel) (by decide) (Nat.le_of_ble_eq_true rfl) dX8_init_1 ?_
  refine g_aload_n (pc := 4) (pl := 0) X dX8_init_4 rfl ?_
  refine g_new (pc := 5) (ci := 4) (C := RX4) (T := TX4) (N := 6) (tys := tyX4) (fs := [.null, .null, .null, .null, .int (J 0), .null]) (n2 := 1) (k2 := 6) X rfl (by decide +kernel) tyX4_ok (by decide +kernel) (by decide +kernel) (by decide +kernel) (by decide +kernel) (Nat.le_of_ble_eq_true rfl) (Nat.le_of_ble_eq_true rfl) dX8_init_5 rfl rfl (fun H1 hz1 hNew hon1 => ?_)
  rw [hsz] at hNew ⊢
  have hNp := hNew
  clear hNew
  have hf1 : Fr (Iv 0 0) 1 H H1 := Fr.new hz1 hon1
  replace hsz : H1.size = x + 2 := by have e := hf1.1; omega
  replace hO := hO.fr hf1 (by omega)
  refine g_dup (pc := 8) X dX8_init_8 rfl ?_
  refine gIv (pc := 9) (n2 := 121) (k2 := 4272) X cs_X8_init_9 (c_X4_init (zl K) D base (x + 1) (by omega)) rfl (by omega) ⟨hNp, hsz⟩ rfl ⟨(Nat.le_of_ble_eq_true rfl), (Nat.le_of_ble_eq_true rfl)⟩ dX8_init_9 (Nat.le_of_ble_eq_true rfl) rfl rfl (fun H2 hp9 hs9 => ?_)
  obtain ⟨hPg, hfa⟩ := hp9
  replace hsz : H2.size = x + 122 := by have e := hfa.1; omega
  replace hO := hO.fr hfa (by omega)
  refine g_putF (pc := 12) X zW_X8_init_10 hnm rfl hO (by omega) rfl rfl rfl dX8_init_12 (fun H3 hOn hf3 => ?_)
  replace hsz : H3.size = x + 122 := by have e := hf3.1; omega
  replace hPg := hPg.fr hf3 (by omega)
  replace hO : Ob D x 8 [.ref (x + 1), .null, .null, .null, .null, .null, .null] H3 := hOn
  clear hOn
  refine g_aload_n (pc := 15) (pl := 0) X dX8_init_15 rfl ?_
  refine g_new (pc := 16) (ci := 1) (C := RX1) (T := TX1) (N := 7) (tys := tyX1) (fs := [.null, .null, .int (J 0), .int (J 0), .int (J 0), .null, .null]) (n2 := 122) (k2 := 4279) X rfl (by decide +kernel) tyX1_ok (by decide +kernel) (by decide +kernel) (by decide +kernel) (by decide +kernel) (Nat.le_of_ble_eq_true rfl) (Nat.le_of_ble_eq_true rfl) dX8_init_16 rfl rfl (fun H4 hz4 hNew hon4 => ?_)
  rw [hsz] at hNew ⊢
  have hNm := hNew
  clear hNew
  have hf4 : Fr (Iv 0 0) 1 H3 H4 := Fr.new hz4 hon4
  replace hsz : H4.size = x + 123 := by have e := hf4.1; omega
  replace hO := hO.fr hf4 (by omega)
  replace hPg := hPg.fr hf4 (by omega)
  refine g_dup (pc := 19) X dX8_init_19 rfl ?_
  refine gIv (pc := 20) (n2 := 130) (k2 := 4607) X cs_X8_init_18 (c_X1_init (zl K) D base (x + 122) (by omega)) rfl (by omega) ⟨hNm, hsz⟩ rfl ⟨(Nat.le_of_ble_eq_true rfl), (Nat.le_of_ble_eq_true rfl)⟩ dX8_init_20 (Nat.le_of_ble_eq_true rfl) rfl rfl (fun H5 hp20 hs20 => ?_)
  obtain ⟨hMg, hfb⟩ := hp20
  replace hsz : H5.size = x + 131 := by have e := hfb.1; omega
  replace hO := hO.fr hfb (by omega)
  replace hPg := hPg.fr hfb (by omega)
  refine g_putF (pc := 23) X zW_X8_init_19 hnm rfl hO (by omega) rfl rfl rfl dX8_init_23 (fun H6 hOn hf6 => ?_)
  replace hsz : H6.size = x + 131 := by have e := hf6.1; omega
  replace hPg := hPg.fr hf6 (by omega)
  replace hMg := hMg.fr hf6 (by omega)
  replace hO : Ob D x 8 [.ref (x + 1), .ref (x + 122), .null, .null, .null, .null, .null] H6 := hOn
  clear hOn
  refine g_aload_n (pc := 26) (pl := 0) X dX8_init_26 rfl ?_
  refine g_new (pc := 27) (ci := 7) (C := RX7) (T := TX7) (N := 3) (tys := tyX7) (fs := [.int (J 0), .int (J 0), .int (J 0)]) (n2 := 131) (k2 := 4610) X rfl (by decide +kernel) tyX7_ok (by decide +kernel) (by decide +kernel) (by decide +kernel) (by decide +kernel) (Nat.le_of_ble_eq_true rfl) (Nat.le_of_ble_eq_true rfl) dX8_init_27 rfl rfl (fun H7 hz7 hNew hon7 => ?_)
  rw [hsz] at hNew ⊢
  have hSc := hNew
  clear hNew
  have hf7 : Fr (Iv 0 0) 1 H6 H7 := Fr.new hz7 hon7
  replace hsz : H7.size = x + 132 := by have e := hf7.1; omega
  replace hO := hO.fr hf7 (by omega)
  replace hPg := hPg.fr hf7 (by omega)
  replace hMg := hMg.fr hf7 (by omega)
  refine g_dup (pc := 30) X dX8_init_30 rfl ?_
  refine gIv (pc := 31) (n2 := 131) (k2 := 4610) X cs_X8_init_25 (c_X7_init (zl K) D base (x + 131)) rfl (by omega) trivial rfl ⟨(Nat.le_of_ble_eq_true rfl), (Nat.le_of_ble_eq_true rfl)⟩ dX8_init_31 (Nat.le_of_ble_eq_true rfl) rfl rfl (fun H8 hp31 hs31 => ?_)
  obtain ⟨rfl, -⟩ := hp31
  refine g_putF (pc := 34) X zW_X8_init_26 hnm rfl hO (by omega) rfl rfl rfl dX8_init_34 (fun H8 hOn hf8 => ?_)
  replace hsz : H8.size = x + 132 := by have e := hf8.1; omega
  replace hSc := hSc.fr hf8 (by omega)
  replace hPg := hPg.fr hf8 (by omega)
  replace hMg := hMg.fr hf8 (by omega)
  replace hO : Ob D x 8 [.ref (x + 1), .ref (x + 122), .ref (x + 131), .null, .null, .null, .null] H8 := hOn
  clear hOn
  refine g_aload_n (pc := 37) (pl := 0) X dX8_init_37 rfl ?_
  refine g_new (pc := 38) (ci := 6) (C := RX6) (T := TX6) (N := 2) (tys := tyX6) (fs := [.null, .int (J 0)]) (n2 := 132) (k2 := 4612) X rfl (by decide +kernel) tyX6_ok (by decide +kernel) (by decide +kernel) (by decide +kernel) (by decide +kernel) (Nat.le_of_ble_eq_true rfl) (Nat.le_of_ble_eq_true rfl) dX8_init_38 rfl rfl (fun H9 hz9 hNew hon9 => ?_)
  rw [hsz] at hNew ⊢
  have hN1 := hNew
  clear hNew
  have hf9 : Fr (Iv 0 0) 1 H8 H9 := Fr.new hz9 hon9
  replace hsz : H9.size = x + 133 := by have e := hf9.1; omega
  replace hO := hO.fr hf9 (by omega)
  replace hSc := hSc.fr hf9 (by omega)
  replace hPg := hPg.fr hf9 (by omega)
  replace hMg := hMg.fr hf9 (by omega)
  refine g_dup (pc := 41) X dX8_init_41 rfl ?_
  refine g_bipush (pc := 42) X dX8_init_42 (by decide +kernel) ?_
  refine gIv (pc := 44) (n2 := 133) (k2 := 4692) X cs_X8_init_32 (c_X6_init (zl K) D base (x + 132) 80 (by omega) (by omega)) rfl (by omega) ⟨hN1, hsz⟩ rfl ⟨(Nat.le_of_ble_eq_true rfl), (Nat.le_of_ble_eq_true rfl)⟩ dX8_init_44 (Nat.le_of_ble_eq_true rfl) rfl rfl (fun H10 hp44 hs44 => ?_)
  obtain ⟨hPd, hfc⟩ := hp44
  replace hsz : H10.size = x + 134 := by have e := hfc.1; omega
  replace hO := hO.fr hfc (by omega)
  replace hSc := hSc.fr hfc (by omega)
  replace hPg := hPg.fr hfc (by omega)
  replace hMg := hMg.fr hfc (by omega)
  refine g_putF (pc := 47) X zW_X8_init_35 hnm rfl hO (by omega) rfl rfl rfl dX8_init_47 (fun H11 hOn hf11 => ?_)
  replace hsz : H11.size = x + 134 := by have e := hf11.1; omega
  replace hSc := hSc.fr hf11 (by omega)
  replace hPg := hPg.fr hf11 (by omega)
  replace hMg := hMg.fr hf11 (by omega)
  replace hPd := hPd.fr hf11 (by omega)
  replace hO : Ob D x 8 [.ref (x + 1), .ref (x + 122), .ref (x + 131), .ref (x + 132), .null, .null, .null] H11 := hOn
  clear hOn
  refine g_aload_n (pc := 50) (pl := 0) X dX8_init_50 rfl ?_
  refine g_new (pc := 51) (ci := 3) (C := RX3) (T := TX3) (N := 4) (tys := tyX3) (fs := [.int (J 0), .int (J 0), .int (J 0), .null]) (n2 := 134) (k2 := 4696) X rfl (by decide +kernel) tyX3_ok (by decide +kernel) (by decide +kernel) (by decide +kernel) (by decide +kernel) (Nat.le_of_ble_eq_true rfl) (Nat.le_of_ble_eq_true rfl) dX8_init_51 rfl rfl (fun H12 hz12 hNew hon12 => ?_)
  rw [hsz] at hNew ⊢
  have hNr := hNew
  clear hNew
  have hf12 : Fr (Iv 0 0) 1 H11 H12 := Fr.new hz12 hon12
  replace hsz : H12.size = x + 135 := by have e := hf12.1; omega
  replace hO := hO.fr hf12 (by omega)
  replace hSc := hSc.fr hf12 (by omega)
  replace hPg := hPg.fr hf12 (by omega)
  replace hMg := hMg.fr hf12 (by omega)
  replace hPd := hPd.fr hf12 (by omega)
  refine g_dup (pc := 54) X dX8_init_54 rfl ?_
  refine gIv (pc := 55) (n2 := 136) (k2 := 4778) X cs_X8_init_41 (c_X3_init (zl K) D base (x + 134) (by omega)) rfl (by omega) ⟨hNr, hsz⟩ rfl ⟨(Nat.le_of_ble_eq_true rfl), (Nat.le_of_ble_eq_true rfl)⟩ dX8_init_55 (Nat.le_of_ble_eq_true rfl) rfl rfl (fun H13 hp55 hs55 => ?_)
  obtain ⟨hRd, hfd⟩ := hp55
  replace hsz : H13.size = x + 137 := by have e := hfd.1; omega
  replace hO := hO.fr hfd (by omega)
  replace hSc := hSc.fr hfd (by omega)
  replace hPg := hPg.fr hfd (by omega)
  replace hMg := hMg.fr hfd (by omega)
  replace hPd := hPd.fr hfd (by omega)
  refine g_putF (pc := 58) X zW_X8_init_42 hnm rfl hO (by omega) rfl rfl rfl dX8_init_58 (fun H14 hOn hf14 => ?_)
  replace hsz : H14.size = x + 137 := by have e := hf14.1; omega
  replace hSc := hSc.fr hf14 (by omega)
  replace hPg := hPg.fr hf14 (by omega)
  replace hMg := hMg.fr hf14 (by omega)
  replace hPd := hPd.fr hf14 (by omega)
  replace hRd := hRd.fr hf14 (by omega)
  replace hO : Ob D x 8 [.ref (x + 1), .ref (x + 122), .ref (x + 131), .ref (x + 132), .ref (x + 134), .null, .null] H14 := hOn
  clear hOn
  refine g_aload_n (pc := 61) (pl := 0) X dX8_init_61 rfl ?_
  refine g_new (pc := 62) (ci := 0) (C := RX0) (T := TX0) (N := 2) (tys := tyX0) (fs := [.null, .int (J 0)]) (n2 := 137) (k2 := 4780) X rfl (by decide +kernel) tyX0_ok (by decide +kernel) (by decide +kernel) (by decide +kernel) (by decide +kernel) (Nat.le_of_ble_eq_true rfl) (Nat.le_of_ble_eq_true rfl) dX8_init_62 rfl rfl (fun H15 hz15 hNew hon15 => ?_)
  rw [hsz] at hNew ⊢
  have hNh := hNew
  clear hNew
  have hf15 : Fr (Iv 0 0) 1 H14 H15 := Fr.new hz15 hon15
  replace hsz : H15.size = x + 138 := by have e := hf15.1; omega
  replace hO := hO.fr hf15 (by omega)
  replace hSc := hSc.fr hf15 (by omega)
  replace hPg := hPg.fr hf15 (by omega)
  replace hMg := hMg.fr hf15 (by omega)
  replace hPd := hPd.fr hf15 (by omega)
  replace hRd := hRd.fr hf15 (by omega)
  refine g_dup (pc := 65) X dX8_init_65 rfl ?_
  refine gIv (pc := 66) (n2 := 138) (k2 := 4787) X cs_X8_init_48 (c_X0_init (zl K) D base (x + 137) (by omega)) rfl (by omega) ⟨hNh, hsz⟩ rfl ⟨(Nat.le_of_ble_eq_true rfl), (Nat.le_of_ble_eq_true rfl)⟩ dX8_init_66 (Nat.le_of_ble_eq_true rfl) rfl rfl (fun H16 hp66 hs66 => ?_)
  obtain ⟨hHO, hHR, hfe⟩ := hp66
  replace hsz : H16.size = x + 139 := by have e := hfe.1; omega
  replace hO := hO.fr hfe (by omega)
  replace hSc := hSc.fr hfe (by omega)
  replace hPg := hPg.fr hfe (by omega)
  replace hMg := hMg.fr hfe (by omega)
  replace hPd := hPd.fr hfe (by omega)
  replace hRd := hRd.fr hfe (by omega)
  refine g_putF (pc := 69) X zW_X8_init_49 hnm rfl hO (by omega) rfl rfl rfl dX8_init_69 (fun H17 hOn hf17 => ?_)
  replace hsz : H17.size = x + 139 := by have e := hf17.1; omega
  replace hSc := hSc.fr hf17 (by omega)
  replace hPg := hPg.fr hf17 (by omega)
  replace hMg := hMg.fr hf17 (by omega)
  replace hPd := hPd.fr hf17 (by omega)
  replace hRd := hRd.fr hf17 (by omega)
  replace hHO := hHO.fr hf17 (by omega)
  replace hHR := hHR.fr hf17 (by omega)
  replace hO : Ob D x 8 [.ref (x + 1), .ref (x + 122), .ref (x + 131), .ref (x + 132), .ref (x + 134), .ref (x + 137), .null] H17 := hOn
  clear hOn
  refine g_aload_n (pc := 72) (pl := 0) X dX8_init_72 rfl ?_
  refine g_iconst (pc := 73) X dX8_init_73 ?_
  refine g_anewarr (pc := 74) (N := 2) (t := 3) (C := "AnchoredNotes$Page") (n2 := 139) (k2 := 4789) X (by decide) (by decide +kernel) rfl (by decide) (Nat.le_of_ble_eq_true rfl) (Nat.le_of_ble_eq_true rfl) dX8_init_74 rfl rfl (fun H18 hz18 hNew hon18 => ?_)
  rw [hsz] at hNew ⊢
  have hSa := hNew
  clear hNew
  have hf18 : Fr (Iv 0 0) 1 H17 H18 := Fr.new hz18 hon18
  replace hsz : H18.size = x + 140 := by have e := hf18.1; omega
  replace hO := hO.fr hf18 (by omega)
  replace hSc := hSc.fr hf18 (by omega)
  replace hPg := hPg.fr hf18 (by omega)
  replace hMg := hMg.fr hf18 (by omega)
  replace hPd := hPd.fr hf18 (by omega)
  replace hRd := hRd.fr hf18 (by omega)
  replace hHO := hHO.fr hf18 (by omega)
  replace hHR := hHR.fr hf18 (by omega)
  refine g_putF (pc := 77) X zW_X8_init_53 hnm rfl hO (by omega) rfl rfl rfl dX8_init_77 (fun H19 hOn hf19 => ?_)
  replace hsz : H19.size = x + 140 := by have e := hf19.1; omega
  replace hSc := hSc.fr hf19 (by omega)
  replace hSa := hSa.fr hf19 (by omega)
  replace hPg := hPg.fr hf19 (by omega)
  replace hMg := hMg.fr hf19 (by omega)
  replace hPd := hPd.fr hf19 (by omega)
  replace hRd := hRd.fr hf19 (by omega)
  replace hHO := hHO.fr hf19 (by omega)
  replace hHR := hHR.fr hf19 (by omega)
  replace hO : Ob D x 8 [.ref (x + 1), .ref (x + 122), .ref (x + 131), .ref (x + 132), .ref (x + 134), .ref (x + 137), .ref (x + 139)] H19 := hOn
  clear hOn
  refine g_vret (pc := 80) X R hH dX8_init_80 ?_
  exact ⟨⟨hO, hPg, ⟨_, _, _, _, _, _, _, _, _, hMg⟩, ⟨0, 0, 0, hSc⟩, hPd, ⟨_, _, _, _, _, hRd⟩, ⟨hHO, hHR, PgsOk.none, fun i h0 h1 => by omega, by omega, by omega⟩, ⟨hSa, PgsOk.none, fun j b _ _ h => (by cases h), fun i j a b _ _ _ _ h => (by cases h)⟩⟩, (Fr.trans hf1.any (Fr.trans (hfa.wide (by omega) (by omega)) (Fr.trans (hf3.wide (by omega) (by omega)) (Fr.trans hf4.any (Fr.trans (hfb.wide (by omega) (by omega)) (Fr.trans (hf6.wide (by omega) (by omega)) (Fr.trans hf7.any (Fr.trans (hf8.wide (by omega) (by omega)) (Fr.trans hf9.any (Fr.trans (hfc.wide (by omega) (by omega)) (Fr.trans (hf11.wide (by omega) (by omega)) (Fr.trans hf12.any (Fr.trans (hfd.wide (by omega) (by omega)) (Fr.trans (hf14.wide (by omega) (by omega)) (Fr.trans hf15.any (Fr.trans (hfe.wide (by omega) (by omega)) (Fr.trans (hf17.wide (by omega) (by omega)) (Fr.trans hf18.any (hf19.wide (by omega) (by omega))))))))))))))))))))⟩


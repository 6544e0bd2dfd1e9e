section
variable {n : Int} {f : Int → Int} {p : Int} {k : Nat}
end
abbrev rm_X3_init : Room := { frames := 2, cells := 2, slots := 82, locals := 33 }
theorem cs_X3_init_11 : zCI RX3 wsX3_init 11 yX6_init wsX6_init cX6_init 2 rm_X3_init rm_X6_init 1 := ⟨_, gX3_init_X6_init, Or.inl (by decide +kernel), by decide +kernel, by decide +kernel, rfl, rfl, ⟨by decide +kernel, by decide +kernel, by decide +kernel⟩, ⟨Nat.le_of_ble_eq_true rfl, Nat.le_of_ble_eq_true rfl⟩⟩
theorem zW_X3_init_14 : zW RX3 wsX3_init 3 3 14 true (tyX3 3) := ⟨RX3, TX3, 4, tyX3, rfl, by decide +kernel, by decide, by decide +kernel, tyX3_ok, nmX3, rfl, rfl, rfl⟩
set_option maxRecDepth 100000 in
theorem c_X3_init (l : Launch) (D : zD) (base : Nat) (w : Nat) (hq : base ≤ w) : Ct l yX3_init wsX3_init rm_X3_init D base [.ref w] (fun H => Ob D w 3 [.int (J 0), .int (J 0), .int (J 0), .null] H ∧ H.size = w + 1) (PV (fun H H1 => RdAt D w 0 0 0 0 (fun _ => 0) H1 ∧ Fr (Iv w (w + 3)) 2 H H1)) := by
  refine Ct.of (own := RX3) (cc := cX3_init) (maxL := 1) (by decide +kernel) rfl (Nat.le_of_ble_eq_true rfl) rfl ?_
  intro K H X R hH hnm hP
  show G K 0 0 H 0 [(0, .ref w)] []
  obtain ⟨hO, hsz⟩ := hP
  refine g_aload_n (pc := 0) (pl := 0) X dX3_init_0 rfl ?_
  refine g_objInit (pc := 1) X (by decide +kernel) (by decide +kernel) (by decide +kernel) (by decide) (Nat.le_of_ble_eq_true rfl) dX3_init_1 ?_
  refine g_aload_n (pc := 4) (pl := 0) X dX3_init_4 rfl ?_
  refine g_new (pc := 5) (ci := 6) (C := RX6) (T := TX6) (N := 2) (tys := tyX6) (fs := [.null, .int (J 0)]) (n2 := 1) (k2 := 2) X rfl (by decide +kernel) tyX6_ok (by decide +kernel) (by decide +kernel) (by decide +kernel) (by decide +kernel) (Nat.le_of_ble_eq_true rfl) (Nat.le_of_ble_eq_true rfl) dX3_init_5 rfl rfl (fun H1 hz1 hNew hon1 => ?_)
  rw [hsz] at hNew ⊢
  have hN1 := hNew
  clear hNew
  have hf1 : Fr (Iv 0 0) 1 H H1 := Fr.new hz1 hon1
  replace hsz : H1.size = w + 2 := by have e := hf1.1; omega
  replace hO := hO.fr hf1 (by omega)
  refine g_dup (pc := 8) X dX3_init_8 rfl ?_
  refine g_iconst (pc := 9) X dX3_init_9 ?_
  refine gIv (pc := 10) (n2 := 2) (k2 := 82) X cs_X3_init_11 (c_X6_init (zl K) D base (w + 1) 3 (by omega) (by omega)) rfl (by omega) ⟨hN1, hsz⟩ rfl ⟨(Nat.le_of_ble_eq_true rfl), (Nat.le_of_ble_eq_true rfl)⟩ dX3_init_10 (Nat.le_of_ble_eq_true rfl) rfl rfl (fun H2 hp10 hs10 => ?_)
  obtain ⟨hR1, hfa⟩ := hp10
  replace hsz : H2.size = w + 3 := by have e := hfa.1; omega
  replace hO := hO.fr hfa (by omega)
  refine g_putF (pc := 13) X zW_X3_init_14 hnm rfl hO (by omega) rfl rfl rfl dX3_init_13 (fun H3 hOn hf3 => ?_)
  replace hsz : H3.size = w + 3 := by have e := hf3.1; omega
  replace hR1 := hR1.fr hf3 (by omega)
  replace hO : Ob D w 3 [.int (J 0), .int (J 0), .int (J 0), .ref (w + 1)] H3 := hOn
  clear hOn
  refine g_vret (pc := 16) X R hH dX3_init_16 ?_
  exact ⟨⟨hO, hR1⟩, (Fr.trans hf1.any (Fr.trans (hfa.wide (by omega) (by omega)) (hf3.wide (by omega) (by omega))))⟩

abbrev rm_X3_findFault : Room := { frames := 3, cells := 0, slots := 0, locals := 64 }

/-- the margin: lines, leaders, firsts, used; last line, all leaders, longest leader -/
def MgAt (D : zD) (w : Nat) (k u : Int) (F L E U : Int → Int) (la al lo : Int) (H : Heap) : Prop :=
  Ob D w 1 [.ref (w + 1), .ref (w + 3), .int (J la), .int (J al), .int (J lo), .ref (w + 5), .ref (w + 7)] H ∧ RowAt D (w + 1) 16 k L H ∧ RowAt D (w + 3) 16 k E H ∧ RowAt D (w + 5) 16 k F H ∧ RowAt D (w + 7) 76 u U H
theorem MgAt.fr {D : zD} {w x y d : Nat} {k u : Int} {F L E U : Int → Int} {la al lo : Int} {H H' : Heap} (h : MgAt D w k u F L E U la al lo H) (fr : Fr (Iv x y) d H H') (e : w + 9 ≤ x ∨ y ≤ w) : MgAt D w k u F L E U la al lo H' := by
  obtain ⟨h1, h2, h3, h4, h5⟩ := h
  exact ⟨h1.fr fr (by omega), h2.fr fr (by omega), h3.fr fr (by omega), h4.fr fr (by omega), h5.fr fr (by omega)⟩
theorem MgAt.lt {D : zD} {w : Nat} {k u : Int} {F L E U : Int → Int} {la al lo : Int} {H : Heap} (h : MgAt D w k u F L E U la al lo H) : w + 8 < H.size := by
  obtain ⟨h1, h2, h3, h4, h5⟩ := h
  exact h5.lt
/-- two regions -/
def Un (a b c d : Nat) : Nat → Prop := fun p => Iv a b p ∨ Iv c d p
theorem Fr.un {a b c d x y e : Nat} {H H' : Heap} (h : Fr (Iv x y) e H H') (z : (a ≤ x ∧ y ≤ b) ∨ (c ≤ x ∧ y ≤ d)) : Fr (Un a b c d) e H H' :=
  h.mono (fun p _ hp => by rcases z with z | z; (left; exact ⟨Nat.le_trans z.1 hp.1, Nat.lt_of_lt_of_le hp.2 z.2⟩); (right; exact ⟨Nat.le_trans z.1 hp.1, Nat.lt_of_lt_of_le hp.2 z.2⟩))
theorem Fr.part {a b c d : Nat} {H H1 : Heap} (h : Fr (Un a b c d) 0 H H1) : ∃ Ha : Heap, Fr (Iv a b) 0 H Ha ∧ Fr (Iv c d) 0 Ha H1 := by
  classical
  refine ⟨H.mapIdx (fun i v => if a ≤ i ∧ i < b then (H1[i]?).getD v else v), ⟨by simp, fun p h1 h2 => ?_⟩, ⟨by rw [h.1]; simp, fun p h1 h2 => ?_⟩⟩
  · rw [Array.getElem?_mapIdx, Array.getElem?_eq_getElem h1]
    simp only [Option.map_some]
    rw [if_neg (show ¬ (a ≤ p ∧ p < b) from h2)]
  · have hs : p < H.size := by simpa using h1
    have hs1 : p < H1.size := by rw [h.1]; exact hs
    rw [Array.getElem?_mapIdx, Array.getElem?_eq_getElem hs]
    simp only [Option.map_some]
    by_cases z : a ≤ p ∧ p < b
    · rw [if_pos z, Array.getElem?_eq_getElem hs1]; rfl
    · rw [if_neg z, h.2 p hs (fun k => k.elim z h2), Array.getElem?_eq_getElem hs]
theorem ntF_self {f : Int → Int} {x : Int} : ∀ i : Int, 0 ≤ i → i < x + 1 → up f x (f x) i = f i := fun i _ _ => by
  unfold up
  split
  · next e => rw [e]
  · rfl
theorem up_const {c x : Int} : ∀ i : Int, 0 ≤ i → i < x + 1 → up (fun _ => c) x c i = c := fun i _ _ => by
  unfold up
  split <;> rfl

theorem mxL_none (k : Nat) : mxL (fun _ => -6) k = -6 := by
  induction k with
  | zero => rfl
  | succ k ih => rw [mxL_s, ih]; rfl
theorem ldr_none (k : Nat) : sumI (ldr (fun _ => -6) (fun _ => -6)) k = 0 := by
  induction k with
  | zero => rfl
  | succ k ih => simp only [sumI]; rw [ih]; rfl
theorem mxE_none (k : Nat) : mxE (fun _ => -6) (fun _ => -6) k = 0 := by
  induction k with
  | zero => rfl
  | succ k ih => rw [mxE_s, ih]; rfl

abbrev rm_X1_init : Room := { frames := 2, cells := 8, slots := 328, locals := 33 }
theorem cs_X1_init_11 : zCI RX1 wsX1_init 11 yX6_init wsX6_init cX6_init 2 rm_X1_init rm_X6_init 1 := ⟨_, gX1_init_X6_init, Or.inl (by decide +kernel), by decide +kernel, by decide +kernel, rfl, rfl, ⟨by decide +kernel, by decide +kernel, by decide +kernel⟩, ⟨Nat.le_of_ble_eq_true rfl, Nat.le_of_ble_eq_true rfl⟩⟩
theorem zW_X1_init_14 : zW RX1 wsX1_init 1 0 14 true (tyX1 0) := ⟨RX1, TX1, 7, tyX1, rfl, by decide +kernel, by decide, by decide +kernel, tyX1_ok, nmX1, rfl, rfl, rfl⟩
theorem zW_X1_init_20 : zW RX1 wsX1_init 1 1 20 true (tyX1 1) := ⟨RX1, TX1, 7, tyX1, rfl, by decide +kernel, by decide, by decide +kernel, tyX1_ok, nmX1, rfl, rfl, rfl⟩
theorem zW_X1_init_23 : zW RX1 wsX1_init 1 5 23 true (tyX1 5) := ⟨RX1, TX1, 7, tyX1, rfl, by decide +kernel, by decide, by decide +kernel, tyX1_ok, nmX1, rfl, rfl, rfl⟩
theorem zW_X1_init_26 : zW RX1 wsX1_init 1 6 26 true (tyX1 6) := ⟨RX1, TX1, 7, tyX1, rfl, by decide +kernel, by decide, by decide +kernel, tyX1_ok, nmX1, rfl, rfl, rfl⟩
set_option maxRecDepth 100000 in
theorem c_X1_init (l : Launch) (D : zD) (base : Nat) (q : Nat) (hq : base ≤ q) : Ct l yX1_init wsX1_init rm_X1_init D base [.ref q] (fun H => Ob D q 1 [.null, .null, .int (J 0), .int (J 0), .int (J 0), .null, .null] H ∧ H.size = q + 1) (PV (fun H H1 => MgAt D q 0 0 (fun _ => 0) (fun _ => 0) (fun _ => 0) (fun _ => 0) 0 0 0 H1 ∧ Fr (Iv q (q + 9)) 8 H H1)) := by
  refine Ct.of (own := RX1) (cc := cX1_init) (maxL := 1) (by decide +kernel) rfl (Nat.le_of_ble_eq_true rfl) rfl ?_
  intro K H X R hH hnm hP
  show G K 0 0 H 0 [(0, .ref q)] []
  obtain ⟨hO, hsz⟩ := hP
  refine g_aload_n (pc := 0) (pl := 0) X dX1_init_0 rfl ?_
  refine g_objInit (pc := 1) X (by decide +kernel) (by decide +kernel) (by decide +kernel) (by decide) (Nat.le_of_ble_eq_true rfl) dX1_init_1 ?_
  refine g_aload_n (pc := 4) (pl := 0) X dX1_init_4 rfl ?_
  refine g_new (pc := 5) (ci := 6) (C := RX6) (T := TX6) (N := 2) (tys := tyX6) (fs := [.null, .int (J 0)]) (n2 := 1) (k2 := 2) X rfl (by decide +kernel) tyX6_ok (by decide +kernel) (by decide +kernel) (by decide +kernel) (by decide +kernel) (Nat.le_of_ble_eq_true rfl) (Nat.le_of_ble_eq_true rfl) dX1_init_5 rfl rfl (fun H1 hz1 hNew hon1 => ?_)
  rw [hsz] at hNew ⊢
  have hN1 := hNew
  clear hNew
  have hf1 : Fr (Iv 0 0) 1 H H1 := Fr.new hz1 hon1
  replace hsz : H1.size = q + 2 := by have e := hf1.1; omega
  replace hO := hO.fr hf1 (by omega)
  refine g_dup (pc := 8) X dX1_init_8 rfl ?_
  refine g_bipush (pc := 9) X dX1_init_9 (by decide +kernel) ?_
  refine gIv (pc := 11) (n2 := 2) (k2 := 82) X cs_X1_init_11 (c_X6_init (zl K) D base (q + 1) 16 (by omega) (by omega)) rfl (by omega) ⟨hN1, hsz⟩ rfl ⟨(Nat.le_of_ble_eq_true rfl), (Nat.le_of_ble_eq_true rfl)⟩ dX1_init_11 (Nat.le_of_ble_eq_true rfl) rfl rfl (fun H2 hp11 hs11 => ?_)
  obtain ⟨hR1, hfa⟩ := hp11
  replace hsz : H2.size = q + 3 := by have e := hfa.1; omega
  replace hO := hO.fr hfa (by omega)
  refine g_putF (pc := 14) X zW_X1_init_14 hnm rfl hO (by omega) rfl rfl rfl dX1_init_14 (fun H3 hOn hf3 => ?_)
  replace hsz : H3.size = q + 3 := by have e := hf3.1; omega
  replace hR1 := hR1.fr hf3 (by omega)
  replace hO : Ob D q 1 [.ref (q + 1), .null, .int (J 0), .int (J 0), .int (J 0), .null, .null] H3 := hOn
  clear hOn
  refine g_aload_n (pc := 17) (pl := 0) X dX1_init_17 rfl ?_
  refine g_new (pc := 18) (ci := 6) (C := RX6) (T := TX6) (N := 2) (tys := tyX6) (fs := [.null, .int (J 0)]) (n2 := 3) (k2 := 84) X rfl (by decide +kernel) tyX6_ok (by decide +kernel) (by decide +kernel) (by decide +kernel) (by decide +kernel) (Nat.le_of_ble_eq_true rfl) (Nat.le_of_ble_eq_true rfl) dX1_init_18 rfl rfl (fun H4 hz4 hNew hon4 => ?_)
  rw [hsz] at hNew ⊢
  have hN3 := hNew
  clear hNew
  have hf4 : Fr (Iv 0 0) 1 H3 H4 := Fr.new hz4 hon4
  replace hsz : H4.size = q + 4 := by have e := hf4.1; omega
  replace hO := hO.fr hf4 (by omega)
  replace hR1 := hR1.fr hf4 (by omega)
  refine g_dup (pc := 21) X dX1_init_21 rfl ?_
  refine g_bipush (pc := 22) X dX1_init_22 (by decide +kernel) ?_
  refine gIv (pc := 24) (n2 := 4) (k2 := 164) X cs_X1_init_11 (c_X6_init (zl K) D base (q + 3) 16 (by omega) (by omega)) rfl (by omega) ⟨hN3, hsz⟩ rfl ⟨(Nat.le_of_ble_eq_true rfl), (Nat.le_of_ble_eq_true rfl)⟩ dX1_init_24 (Nat.le_of_ble_eq_true rfl) rfl rfl (fun H5 hp24 hs24 => ?_)
  obtain ⟨hR3, hfb⟩ := hp24
  replace hsz : H5.size = q + 5 := by have e := hfb.1; omega
  replace hO := hO.fr hfb (by omega)
  replace hR1 := hR1.fr hfb (by omega)
  refine g_putF (pc := 27) X zW_X1_init_20 hnm rfl hO (by omega) rfl rfl rfl dX1_init_27 (fun H6 hOn hf6 => ?_)
  replace hsz : H6.size = q + 5 := by have e := hf6.1; omega
  replace hR1 := hR1.fr hf6 (by omega)
  replace hR3 := hR3.fr hf6 (by omega)
  replace hO : Ob D q 1 [.ref (q + 1), .ref (q + 3), .int (J 0), .int (J 0), .int (J 0), .null, .null] H6 := hOn
  clear hOn
  refine g_aload_n (pc := 30) (pl := 0) X dX1_init_30 rfl ?_
  refine g_new (pc := 31) (ci := 6) (C := RX6) (T := TX6) (N := 2) (tys := tyX6) (fs := [.null, .int (J 0)]) (n2 := 5) (k2 := 166) X rfl (by decide +kernel) tyX6_ok (by decide +kernel) (by decide +kernel) (by decide +kernel) (by decide +kernel) (Nat.le_of_ble_eq_true rfl) (Nat.le_of_ble_eq_true rfl) dX1_init_31 rfl rfl (fun H7 hz7 hNew hon7 => ?_)
  rw [hsz] at hNew ⊢
  have hN5 := hNew
  clear hNew
  have hf7 : Fr (Iv 0 0) 1 H6 H7 := Fr.new hz7 hon7
  replace hsz : H7.size = q + 6 := by have e := hf7.1; omega
  replace hO := hO.fr hf7 (by omega)
  replace hR1 := hR1.fr hf7 (by omega)
  replace hR3 := hR3.fr hf7 (by omega)
  refine g_dup (pc := 34) X dX1_init_34 rfl ?_
  refine g_bipush (pc := 35) X dX1_init_35 (by decide +kernel) ?_
  refine gIv (pc := 37) (n2 := 6) (k2 := 246) X cs_X1_init_11 (c_X6_init (zl K) D base (q + 5) 16 (by omega) (by omega)) rfl (by omega) ⟨hN5, hsz⟩ rfl ⟨(Nat.le_of_ble_eq_true rfl), (Nat.le_of_ble_eq_true rfl)⟩ dX1_init_37 (Nat.le_of_ble_eq_true rfl) rfl rfl (fun H8 hp37 hs37 => ?_)
  obtain ⟨hR5, hfc⟩ := hp37
  replace hsz : H8.size = q + 7 := by have e := hfc.1; omega
  replace hO := hO.fr hfc (by omega)
  replace hR1 := hR1.fr hfc (by omega)
  replace hR3 := hR3.fr hfc (by omega)
  refine g_putF (pc := 40) X zW_X1_init_23 hnm rfl hO (by omega) rfl rfl rfl dX1_init_40 (fun H9 hOn hf9 => ?_)
  replace hsz : H9.size = q + 7 := by have e := hf9.1; omega
  replace hR1 := hR1.fr hf9 (by omega)
  replace hR3 := hR3.fr hf9 (by omega)
  replace hR5 := hR5.fr hf9 (by omega)
  replace hO : Ob D q 1 [.ref (q + 1), .ref (q + 3), .int (J 0), .int (J 0), .int (J 0), .ref (q + 5), .null] H9 := hOn
  clear hOn
  refine g_aload_n (pc := 43) (pl := 0) X dX1_init_43 rfl ?_
  refine g_new (pc := 44) (ci := 6) (C := RX6) (T := TX6) (N := 2) (tys := tyX6) (fs := [.null, .int (J 0)]) (n2 := 7) (k2 := 248) X rfl (by decide +kernel) tyX6_ok (by decide +kernel) (by decide +kernel) (by decide +kernel) (by decide +kernel) (Nat.le_of_ble_eq_true rfl) (Nat.le_of_ble_eq_true rfl) dX1_init_44 rfl rfl (fun H10 hz10 hNew hon10 => ?_)
  rw [hsz] at hNew ⊢
  have hN7 := hNew
  clear hNew
  have hf10 : Fr (Iv 0 0) 1 H9 H10 := Fr.new hz10 hon10
  replace hsz : H10.size = q + 8 := by have e := hf10.1; omega
  replace hO := hO.fr hf10 (by omega)
  replace hR1 := hR1.fr hf10 (by omega)
  replace hR3 := hR3.fr hf10 (by omega)
  replace hR5 := hR5.fr hf10 (by omega)
  refine g_dup (pc := 47) X dX1_init_47 rfl ?_
  refine g_bipush (pc := 48) X dX1_init_48 (by decide +kernel) ?_
  refine gIv (pc := 50) (n2 := 8) (k2 := 328) X cs_X1_init_11 (c_X6_init (zl K) D base (q + 7) 76 (by omega) (by omega)) rfl (by omega) ⟨hN7, hsz⟩ rfl ⟨(Nat.le_of_ble_eq_true rfl), (Nat.le_of_ble_eq_true rfl)⟩ dX1_init_50 (Nat.le_of_ble_eq_true rfl) rfl rfl (fun H11 hp50 hs50 => ?_)
  obtain ⟨hR7, hfd⟩ := hp50
  replace hsz : H11.size = q + 9 := by have e := hfd.1; omega
  replace hO := hO.fr hfd (by omega)
  replace hR1 := hR1.fr hfd (by omega)
  replace hR3 := hR3.fr hfd (by omega)
  replace hR5 := hR5.fr hfd (by omega)
  refine g_putF (pc := 53) X zW_X1_init_26 hnm rfl hO (by omega) rfl rfl rfl dX1_init_53 (fun H12 hOn hf12 => ?_)
  replace hsz : H12.size = q + 9 := by have e := hf12.1; omega
  replace hR1 := hR1.fr hf12 (by omega)
  replace hR3 := hR3.fr hf12 (by omega)
  replace hR5 := hR5.fr hf12 (by omega)
  replace hR7 := hR7.fr hf12 (by omega)
  replace hO : Ob D q 1 [.ref (q + 1), .ref (q + 3), .int (J 0), .int (J 0), .int (J 0), .ref (q + 5), .ref (q + 7)] H12 := hOn
  clear hOn
  refine g_vret (pc := 56) X R hH dX1_init_56 ?_
  exact ⟨⟨hO, hR1, hR3, hR5, hR7⟩, (Fr.trans hf1.any (Fr.trans (hfa.wide (by omega) (by omega)) (Fr.trans (hf3.wide (by omega) (by omega)) (Fr.trans hf4.any (Fr.trans (hfb.wide (by omega) (by omega)) (Fr.trans (hf6.wide (by omega) (by omega)) (Fr.trans hf7.any (Fr.trans (hfc.wide (by omega) (by omega)) (Fr.trans (hf9.wide (by omega) (by omega)) (Fr.trans hf10.any (Fr.trans (hfd.wide (by omega) (by omega)) (hf12.wide (by omega) (by omega)))))))))))))⟩

abbrev rm_X1_empty : Room := { frames := 1, cells := 0, slots := 0, locals := 21 }
theorem zF_X1_empty_23 : zF RX1 wsX1_empty 1 5 23 := ⟨RX1, TX1, 7, rfl, by decide +kernel, by decide, by decide +kernel⟩
theorem cs_X1_empty_67 : zCV RX1 wsX1_empty 67 6 yX6_clear wsX6_clear cX6_clear 1 none rm_X1_empty rm_X6_clear 0 := ⟨_, _, gX1_empty_X6_clear, rfl, ⟨by decide +kernel, by decide +kernel, by decide +kernel⟩, ⟨Nat.le_of_ble_eq_true rfl, Nat.le_of_ble_eq_true rfl⟩, rfl, rfl⟩
theorem zF_X1_empty_14 : zF RX1 wsX1_empty 1 0 14 := ⟨RX1, TX1, 7, rfl, by decide +kernel, by decide, by decide +kernel⟩
theorem zF_X1_empty_20 : zF RX1 wsX1_empty 1 1 20 := ⟨RX1, TX1, 7, rfl, by decide +kernel, by decide, by decide +kernel⟩
theorem zF_X1_empty_26 : zF RX1 wsX1_empty 1 6 26 := ⟨RX1, TX1, 7, rfl, by decide +kernel, by decide, by decide +kernel⟩
theorem zW_X1_empty_70 : zW RX1 wsX1_empty 1 2 70 false (tyX1 2) := ⟨RX1, TX1, 7, tyX1, rfl, by decide +kernel, by decide, by decide +kernel, tyX1_ok, nmX1, rfl, rfl, rfl⟩
theorem zW_X1_empty_73 : zW RX1 wsX1_empty 1 3 73 false (tyX1 3) := ⟨RX1, TX1, 7, tyX1, rfl, by decide +kernel, by decide, by decide +kernel, tyX1_ok, nmX1, rfl, rfl, rfl⟩
theorem zW_X1_empty_76 : zW RX1 wsX1_empty 1 4 76 false (tyX1 4) := ⟨RX1, TX1, 7, tyX1, rfl, by decide +kernel, by decide, by decide +kernel, tyX1_ok, nmX1, rfl, rfl, rfl⟩
theorem cs_X1_empty_47 : zCV RX1 wsX1_empty 47 6 yX6_add wsX6_add cX6_add 2 none rm_X1_empty rm_X6_add 1 := ⟨_, _, gX1_empty_X6_add, rfl, ⟨by decide +kernel, by decide +kernel, by decide +kernel⟩, ⟨Nat.le_of_ble_eq_true rfl, Nat.le_of_ble_eq_true rfl⟩, rfl, rfl⟩
set_option maxRecDepth 100000 in
theorem c_X1_empty (l : Launch) (D : zD) (base : Nat) (w : Nat) (k u : Int) (F L E U : Int → Int) (la al lo : Int) (hw : base ≤ w) : Ct l yX1_empty wsX1_empty rm_X1_empty D base [.ref w] (fun H => MgAt D w k u F L E U la al lo H) (PV (fun H H1 => MgAt D w 0 76 F L E (fun _ => 0) (-6) 0 0 H1 ∧ Fr (Iv w (w + 9)) 0 H H1)) := by
  refine Ct.of (own := RX1) (cc := cX1_empty) (maxL := 2) (by decide +kernel) rfl (Nat.le_of_ble_eq_true rfl) rfl ?_
  intro K H X R hH hnm hP
  show G K 0 0 H 0 [(0, .ref w)] []
  have hM := hP
  obtain ⟨hMO, hML, hME, hMF, hMU⟩ := hM
  refine g_aload_n (pc := 0) (pl := 0) X dX1_empty_0 rfl ?_
  refine g_getf (pc := 1) X zF_X1_empty_23 hMO rfl dX1_empty_1 ?_
  obtain ⟨hRO, -⟩ := id hMF
  refine gVv (pc := 4) (n2 := 0) (k2 := 0) X cs_X1_empty_67 (c_X6_clear (zl K) D base (w + 5) 16 k F (by omega)) rfl hRO (by omega) hMF rfl ⟨Nat.le_of_ble_eq_true rfl, Nat.le_of_ble_eq_true rfl⟩ dX1_empty_4 (Nat.le_of_ble_eq_true rfl) rfl rfl (fun H1 hp4 hs4 => ?_)
  obtain ⟨hMFn, hfa⟩ := hp4
  replace hMO := hMO.fr hfa (by omega)
  replace hML := hML.fr hfa (by omega)
  replace hME := hME.fr hfa (by omega)
  replace hMU := hMU.fr hfa (by omega)
  replace hMF := hMFn
  clear hMFn
  refine g_aload_n (pc := 7) (pl := 0) X dX1_empty_7 rfl ?_
  refine g_getf (pc := 8) X zF_X1_empty_14 hMO rfl dX1_empty_8 ?_
  obtain ⟨hRO, -⟩ := id hML
  refine gVv (pc := 11) (n2 := 0) (k2 := 0) X cs_X1_empty_67 (c_X6_clear (zl K) D base (w + 1) 16 k L (by omega)) rfl hRO (by omega) hML rfl ⟨Nat.le_of_ble_eq_true rfl, Nat.le_of_ble_eq_true rfl⟩ dX1_empty_11 (Nat.le_of_ble_eq_true rfl) rfl rfl (fun H2 hp11 hs11 => ?_)
  obtain ⟨hMLn, hfb⟩ := hp11
  replace hMO := hMO.fr hfb (by omega)
  replace hME := hME.fr hfb (by omega)
  replace hMF := hMF.fr hfb (by omega)
  replace hMU := hMU.fr hfb (by omega)
  replace hML := hMLn
  clear hMLn
  refine g_aload_n (pc := 14) (pl := 0) X dX1_empty_14 rfl ?_
  refine g_getf (pc := 15) X zF_X1_empty_20 hMO rfl dX1_empty_15 ?_
  obtain ⟨hRO, -⟩ := id hME
  refine gVv (pc := 18) (n2 := 0) (k2 := 0) X cs_X1_empty_67 (c_X6_clear (zl K) D base (w + 3) 16 k E (by omega)) rfl hRO (by omega) hME rfl ⟨Nat.le_of_ble_eq_true rfl, Nat.le_of_ble_eq_true rfl⟩ dX1_empty_18 (Nat.le_of_ble_eq_true rfl) rfl rfl (fun H3 hp18 hs18 => ?_)
  obtain ⟨hMEn, hfc⟩ := hp18
  replace hMO := hMO.fr hfc (by omega)
  replace hML := hML.fr hfc (by omega)
  replace hMF := hMF.fr hfc (by omega)
  replace hMU := hMU.fr hfc (by omega)
  replace hME := hMEn
  clear hMEn
  refine g_aload_n (pc := 21) (pl := 0) X dX1_empty_21 rfl ?_
  refine g_getf (pc := 22) X zF_X1_empty_26 hMO rfl dX1_empty_22 ?_
  obtain ⟨hRO, -⟩ := id hMU
  refine gVv (pc := 25) (n2 := 0) (k2 := 0) X cs_X1_empty_67 (c_X6_clear (zl K) D base (w + 7) 76 u U (by omega)) rfl hRO (by omega) hMU rfl ⟨Nat.le_of_ble_eq_true rfl, Nat.le_of_ble_eq_true rfl⟩ dX1_empty_25 (Nat.le_of_ble_eq_true rfl) rfl rfl (fun H4 hp25 hs25 => ?_)
  obtain ⟨hMUn, hfd⟩ := hp25
  replace hMO := hMO.fr hfd (by omega)
  replace hML := hML.fr hfd (by omega)
  replace hME := hME.fr hfd (by omega)
  replace hMF := hMF.fr hfd (by omega)
  replace hMU := hMUn
  clear hMUn
  refine g_iconst (pc := 28) X dX1_empty_28 ?_
  refine g_istore_n (pc := 29) (lv' := [(1, _), (0, _)]) X dX1_empty_29 (by decide) rfl ?_
  have hL30 : ∀ (fu : Nat) (x : Int) (Hx : Heap), (76 - x).toNat < fu → (0 ≤ x ∧ x ≤ 76) → (Ob D w 1 [.ref (w + 1), .ref (w + 3), .int (J la), .int (J al), .int (J lo), .ref (w + 5), .ref (w + 7)] Hx) → (RowAt D (w + 1) 16 0 L Hx) → (RowAt D (w + 3) 16 0 E Hx) → (RowAt D (w + 5) 16 0 F Hx) → (RowAt D (w + 7) 76 x (fun _ => 0) Hx) → (Fr (Iv w (w + 9)) 0 H Hx) → G K 0 0 Hx 30 [(0, .ref w), (1, .int (J x))] [] := by
    intro fu
    induction fu with
    | zero => intro x Hx hm; exact absurd hm (Nat.not_lt_zero _)
    | succ fu ih30 =>
      intro x Hx hm h1 hMO hML hME hMF hMU h3
      refine g_iload_n (pc := 30) (pl := 1) X dX1_empty_30 rfl ?_
      refine g_bipush (pc := 31) X dX1_empty_31 (by decide +kernel) ?_
      refine g_icmp_ge (pc := 33) X 50 dX1_empty_33 (by decide) (by omega) (by omega) (fun c33 => ?_) (fun c33 => ?_)
      · skip
        refine g_aload_n (pc := 50) (pl := 0) X dX1_empty_50 rfl ?_
        refine g_bipush (pc := 51) X dX1_empty_51 (by decide +kernel) ?_
        refine g_putf (pc := 53) X zW_X1_empty_70 hMO (by omega) rfl rfl rfl dX1_empty_53 (fun H5 hMOn hf5 => ?_)
        replace hML := hML.fr hf5 (by omega)
        replace hME := hME.fr hf5 (by omega)
        replace hMF := hMF.fr hf5 (by omega)
        replace hMU := hMU.fr hf5 (by omega)
        replace hMO : Ob D w 1 [.ref (w + 1), .ref (w + 3), .int (J (-6)), .int (J al), .int (J lo), .ref (w + 5), .ref (w + 7)] H5 := hMOn
        clear hMOn
        refine g_aload_n (pc := 56) (pl := 0) X dX1_empty_56 rfl ?_
        refine g_iconst (pc := 57) X dX1_empty_57 ?_
        refine g_putf (pc := 58) X zW_X1_empty_73 hMO (by omega) rfl rfl rfl dX1_empty_58 (fun H6 hMOn hf6 => ?_)
        replace hML := hML.fr hf6 (by omega)
        replace hME := hME.fr hf6 (by omega)
        replace hMF := hMF.fr hf6 (by omega)
        replace hMU := hMU.fr hf6 (by omega)
        replace hMO : Ob D w 1 [.ref (w + 1), .ref (w + 3), .int (J (-6)), .int (J 0), .int (J lo), .ref (w + 5), .ref (w + 7)] H6 := hMOn
        clear hMOn
        refine g_aload_n (pc := 61) (pl := 0) X dX1_empty_61 rfl ?_
        refine g_iconst (pc := 62) X dX1_empty_62 ?_
        refine g_putf (pc := 63) X zW_X1_empty_76 hMO (by omega) rfl rfl rfl dX1_empty_63 (fun H7 hMOn hf7 => ?_)
        replace hML := hML.fr hf7 (by omega)
        replace hME := hME.fr hf7 (by omega)
        replace hMF := hMF.fr hf7 (by omega)
        replace hMU := hMU.fr hf7 (by omega)
        replace hMO : Ob D w 1 [.ref (w + 1), .ref (w + 3), .int (J (-6)), .int (J 0), .int (J 0), .ref (w + 5), .ref (w + 7)] H7 := hMOn
        clear hMOn
        refine g_vret (pc := 66) X R hH dX1_empty_66 ?_
        obtain rfl : x = 76 := by omega
        exact ⟨⟨hMO, hML, hME, hMF, hMU⟩, (Fr.trans (h3.wide (by omega) (by omega)) (Fr.trans (hf5.wide (by omega) (by omega)) (Fr.trans (hf6.wide (by omega) (by omega)) (hf7.wide (by omega) (by omega)))))⟩
      · skip
        refine g_aload_n (pc := 36) (pl := 0) X dX1_empty_36 rfl ?_
        refine g_getf (pc := 37) X zF_X1_empty_26 hMO rfl dX1_empty_37 ?_
        refine g_iconst (pc := 40) X dX1_empty_40 ?_
        obtain ⟨hRO, -⟩ := id hMU
        refine gVv (pc := 41) (n2 := 0) (k2 := 0) X cs_X1_empty_47 (c_X6_add (zl K) D base (w + 7) 76 x (fun _ => 0) 0 (by omega) (by omega)) rfl hRO (by omega) hMU rfl ⟨Nat.le_of_ble_eq_true rfl, Nat.le_of_ble_eq_true rfl⟩ dX1_empty_41 (Nat.le_of_ble_eq_true rfl) rfl rfl (fun H5 hp41 hs41 => ?_)
        obtain ⟨hMUn, hfe⟩ := hp41
        replace hMO := hMO.fr hfe (by omega)
        replace hML := hML.fr hfe (by omega)
        replace hME := hME.fr hfe (by omega)
        replace hMF := hMF.fr hfe (by omega)
        replace hMU := hMUn
        clear hMUn
        refine g_iinc (pc := 44) (pl := 1) (x := x) (lv' := [(1, _), (0, _)]) X dX1_empty_44 rfl (by decide) rfl ?_
        refine g_goto (pc := 47) X 30 dX1_empty_47 (by decide) ?_
        refine G.pick [1, 0] (lv' := [(0, _), (1, _)]) rfl ?_
        exact ih30 (x + 1) H5 (by omega) (by omega) hMO hML hME hMF (hMU.congr up_const) (Fr.trans (h3.wide (by omega) (by omega)) (hfe.wide (by omega) (by omega)))
  refine G.pick [1, 0] (lv' := [(0, _), (1, _)]) rfl ?_
  exact hL30 _ 0 H4 (Nat.lt_succ_self _) (by omega) hMO hML hME hMF (hMU.congr (fun i h0 h1 => by omega)) (Fr.trans (hfa.wide (by omega) (by omega)) (Fr.trans (hfb.wide (by omega) (by omega)) (Fr.trans (hfc.wide (by omega) (by omega)) (hfd.wide (by omega) (by omega)))))

abbrev rm_X1_print : Room := { frames := 2, cells := 0, slots := 0, locals := 43 }
theorem zF_X1_print_26 : zF RX1 wsX1_print 1 6 26 := ⟨RX1, TX1, 7, rfl, by decide +kernel, by decide, by decide +kernel⟩
theorem cs_X1_print_56 : zCV RX1 wsX1_print 56 6 yX6_item wsX6_item cX6_item 2 (some .int) rm_X1_print rm_X6_item 1 := ⟨_, _, gX1_print_X6_item, rfl, ⟨by decide +kernel, by decide +kernel, by decide +kernel⟩, ⟨Nat.le_of_ble_eq_true rfl, Nat.le_of_ble_eq_true rfl⟩, rfl, rfl⟩
theorem cs_X1_print_79 : zCV RX1 wsX1_print 79 6 yX6_replace wsX6_replace cX6_replace 3 none rm_X1_print rm_X6_replace 2 := ⟨_, _, gX1_print_X6_replace, rfl, ⟨by decide +kernel, by decide +kernel, by decide +kernel⟩, ⟨Nat.le_of_ble_eq_true rfl, Nat.le_of_ble_eq_true rfl⟩, rfl, rfl⟩
theorem zF_X1_print_14 : zF RX1 wsX1_print 1 0 14 := ⟨RX1, TX1, 7, rfl, by decide +kernel, by decide, by decide +kernel⟩
theorem zF_X1_print_20 : zF RX1 wsX1_print 1 1 20 := ⟨RX1, TX1, 7, rfl, by decide +kernel, by decide, by decide +kernel⟩
theorem zF_X1_print_70 : zF RX1 wsX1_print 1 2 70 := ⟨RX1, TX1, 7, rfl, by decide +kernel, by decide, by decide +kernel⟩
theorem zW_X1_print_70 : zW RX1 wsX1_print 1 2 70 false (tyX1 2) := ⟨RX1, TX1, 7, tyX1, rfl, by decide +kernel, by decide, by decide +kernel, tyX1_ok, nmX1, rfl, rfl, rfl⟩
theorem zF_X1_print_73 : zF RX1 wsX1_print 1 3 73 := ⟨RX1, TX1, 7, rfl, by decide +kernel, by decide, by decide +kernel⟩
theorem zW_X1_print_73 : zW RX1 wsX1_print 1 3 73 false (tyX1 3) := ⟨RX1, TX1, 7, tyX1, rfl, by decide +kernel, by decide, by decide +kernel, tyX1_ok, nmX1, rfl, rfl, rfl⟩
theorem zF_X1_print_76 : zF RX1 wsX1_print 1 4 76 := ⟨RX1, TX1, 7, rfl, by decide +kernel, by decide, by decide +kernel⟩
theorem zW_X1_print_76 : zW RX1 wsX1_print 1 4 76 false (tyX1 4) := ⟨RX1, TX1, 7, tyX1, rfl, by decide +kernel, by decide, by decide +kernel, tyX1_ok, nmX1, rfl, rfl, rfl⟩
set_option maxRecDepth 100000 in
theorem c_X1_print (l : Launch) (D : zD) (base : Nat) (w : Nat) (n o room y : Int) (k : Int) (F L E U : Int → Int) (la al lo : Int) (hw : base ≤ w) (hn : 0 ≤ n ∧ n < k ∧ k ≤ 16) (ho : 0 ≤ o) (hy : flin U room 76 o = y ∧ y ≤ 75 ∧ U y < room) (hU0 : ∀ j : Int, 0 ≤ j ∧ j < 76 → 0 ≤ U j ∧ U j ≤ 16) (hr : rg room) (hla : -6 ≤ la ∧ la ≤ 75) (hlo : 0 ≤ lo ∧ lo ≤ 75) : Ct l yX1_print wsX1_print rm_X1_print D base [.ref w, .int (J n), .int (J o), .int (J room)] (fun H => MgAt D w k 76 F L E U la al lo H) (PV (fun H H1 => MgAt D w k 76 F (up L n y) (up E n (y - o)) (up U y (U y + 1)) (if la < y then y else la) (al + (y - o)) (if lo < y - o then y - o else lo) H1 ∧ Fr (Iv w (w + 9)) 0 H H1)) := by
  refine Ct.of (own := RX1) (cc := cX1_print) (maxL := 5) (by decide +kernel) rfl (Nat.le_of_ble_eq_true rfl) rfl ?_
  intro K H X R hH hnm hP
  show G K 0 0 H 0 [(0, .ref w), (1, .int (J n)), (2, .int (J o)), (3, .int (J room))] []
  have hM := hP
  obtain ⟨hMO, hML, hME, hMF, hMU⟩ := hM
  obtain ⟨hy, hy1, hy2⟩ := hy
  obtain ⟨b1, b2, b3, b4⟩ := flin_spec U room 76 o
  rw [hy] at b1 b2 b3 b4
  refine g_iload_n (pc := 0) (pl := 2) X dX1_print_0 rfl ?_
  refine g_istore (pc := 1) (lv' := [(4, _), (0, _), (1, _), (2, _), (3, _)]) X dX1_print_1 (by decide) rfl ?_
  have hL3 : ∀ (fu : Nat) (x : Int), (76 - x).toNat < fu → (o ≤ x ∧ x ≤ y) → G K 0 0 H 3 [(0, .ref w), (1, .int (J n)), (2, .int (J o)), (3, .int (J room)), (4, .int (J x))] [] := by
    intro fu
    induction fu with
    | zero => intro x hm; exact absurd hm (Nat.not_lt_zero _)
    | succ fu ih3 =>
      intro x hm h1
      refine g_iload (pc := 3) (pl := 4) X dX1_print_3 rfl ?_
      refine g_bipush (pc := 5) X dX1_print_5 (by decide +kernel) ?_
      refine g_icmp_ge (pc := 7) X 29 dX1_print_7 (by decide) (by omega) (by omega) (fun c7 => ?_) (fun c7 => ?_)
      · skip
        have hxy : x = y := by omega
        subst hxy
        refine g_aload_n (pc := 29) (pl := 0) X dX1_print_29 rfl ?_
        refine g_getf (pc := 30) X zF_X1_print_26 hMO rfl dX1_print_30 ?_
        refine g_iload (pc := 33) (pl := 4) X dX1_print_33 rfl ?_
        refine g_aload_n (pc := 35) (pl := 0) X dX1_print_35 rfl ?_
        refine g_getf (pc := 36) X zF_X1_print_26 hMO rfl dX1_print_36 ?_
        refine g_iload (pc := 39) (pl := 4) X dX1_print_39 rfl ?_
        obtain ⟨hRO, -⟩ := id hMU
        refine gVi (pc := 41) (n2 := 0) (k2 := 0) X cs_X1_print_56 (c_X6_item (zl K) D base (w + 7) 76 76 U x (by omega)) rfl hRO (by omega) hMU rfl ⟨Nat.le_of_ble_eq_true rfl, Nat.le_of_ble_eq_true rfl⟩ dX1_print_41 (Nat.le_of_ble_eq_true rfl) rfl rfl (fun v41 H1 hp41 hs41 => ?_)
        obtain ⟨rfl, rfl⟩ := hp41
        rw [show itm 76 U x = U x from if_pos (by omega)]
        refine g_iconst (pc := 44) X dX1_print_44 ?_
        refine g_iadd (pc := 45) X dX1_print_45 ?_
        obtain ⟨hRO, -⟩ := id hMU
        refine gVv (pc := 46) (n2 := 0) (k2 := 0) X cs_X1_print_79 (c_X6_replace (zl K) D base (w + 7) 76 76 U x (U x + 1) (by omega) (by omega)) rfl hRO (by omega) hMU rfl ⟨Nat.le_of_ble_eq_true rfl, Nat.le_of_ble_eq_true rfl⟩ dX1_print_46 (Nat.le_of_ble_eq_true rfl) rfl rfl (fun H1 hp46 hs46 => ?_)
        obtain ⟨hMUn, hfa⟩ := hp46
        replace hMO := hMO.fr hfa (by omega)
        replace hML := hML.fr hfa (by omega)
        replace hME := hME.fr hfa (by omega)
        replace hMF := hMF.fr hfa (by omega)
        replace hMU := hMUn
        clear hMUn
        refine g_aload_n (pc := 49) (pl := 0) X dX1_print_49 rfl ?_
        refine g_getf (pc := 50) X zF_X1_print_14 hMO rfl dX1_print_50 ?_
        refine g_iload_n (pc := 53) (pl := 1) X dX1_print_53 rfl ?_
        refine g_iload (pc := 54) (pl := 4) X dX1_print_54 rfl ?_
        obtain ⟨hRO, -⟩ := id hML
        refine gVv (pc := 56) (n2 := 0) (k2 := 0) X cs_X1_print_79 (c_X6_replace (zl K) D base (w + 1) 16 k L n x (by omega) (by omega)) rfl hRO (by omega) hML rfl ⟨Nat.le_of_ble_eq_true rfl, Nat.le_of_ble_eq_true rfl⟩ dX1_print_56 (Nat.le_of_ble_eq_true rfl) rfl rfl (fun H2 hp56 hs56 => ?_)
        obtain ⟨hMLn, hfb⟩ := hp56
        replace hMO := hMO.fr hfb (by omega)
        replace hME := hME.fr hfb (by omega)
        replace hMF := hMF.fr hfb (by omega)
        replace hMU := hMU.fr hfb (by omega)
        replace hML := hMLn
        clear hMLn
        refine g_aload_n (pc := 59) (pl := 0) X dX1_print_59 rfl ?_
        refine g_getf (pc := 60) X zF_X1_print_20 hMO rfl dX1_print_60 ?_
        refine g_iload_n (pc := 63) (pl := 1) X dX1_print_63 rfl ?_
        refine g_iload (pc := 64) (pl := 4) X dX1_print_64 rfl ?_
        refine g_iload_n (pc := 66) (pl := 2) X dX1_print_66 rfl ?_
        refine g_isub (pc := 67) X dX1_print_67 ?_
        obtain ⟨hRO, -⟩ := id hME
        refine gVv (pc := 68) (n2 := 0) (k2 := 0) X cs_X1_print_79 (c_X6_replace (zl K) D base (w + 3) 16 k E n (x - o) (by omega) (by omega)) rfl hRO (by omega) hME rfl ⟨Nat.le_of_ble_eq_true rfl, Nat.le_of_ble_eq_true rfl⟩ dX1_print_68 (Nat.le_of_ble_eq_true rfl) rfl rfl (fun H3 hp68 hs68 => ?_)
        obtain ⟨hMEn, hfc⟩ := hp68
        replace hMO := hMO.fr hfc (by omega)
        replace hML := hML.fr hfc (by omega)
        replace hMF := hMF.fr hfc (by omega)
        replace hMU := hMU.fr hfc (by omega)
        replace hME := hMEn
        clear hMEn
        refine g_aload_n (pc := 71) (pl := 0) X dX1_print_71 rfl ?_
        refine g_aload_n (pc := 72) (pl := 0) X dX1_print_72 rfl ?_
        refine g_getf (pc := 73) X zF_X1_print_70 hMO rfl dX1_print_73 ?_
        refine g_iload (pc := 76) (pl := 4) X dX1_print_76 rfl ?_
        refine g_mmax (pc := 78) X (by omega) (by omega) (by decide +kernel) (by decide +kernel) (by decide +kernel) (by decide +kernel) (by decide) (Nat.le_of_ble_eq_true rfl) (by decide) dX1_print_78 ?_
        refine g_putf (pc := 81) X zW_X1_print_70 hMO (by omega) rfl rfl rfl dX1_print_81 (fun H4 hMOn hf4 => ?_)
        replace hML := hML.fr hf4 (by omega)
        replace hME := hME.fr hf4 (by omega)
        replace hMF := hMF.fr hf4 (by omega)
        replace hMU := hMU.fr hf4 (by omega)
        replace hMO : Ob D w 1 [.ref (w + 1), .ref (w + 3), .int (J (if la < x then x else la)), .int (J al), .int (J lo), .ref (w + 5), .ref (w + 7)] H4 := hMOn
        clear hMOn
        refine g_aload_n (pc := 84) (pl := 0) X dX1_print_84 rfl ?_
        refine g_dup (pc := 85) X dX1_print_85 rfl ?_
        refine g_getf (pc := 86) X zF_X1_print_73 hMO rfl dX1_print_86 ?_
        refine g_iload (pc := 89) (pl := 4) X dX1_print_89 rfl ?_
        refine g_iload_n (pc := 91) (pl := 2) X dX1_print_91 rfl ?_
        refine g_isub (pc := 92) X dX1_print_92 ?_
        refine g_iadd (pc := 93) X dX1_print_93 ?_
        refine g_putf (pc := 94) X zW_X1_print_73 hMO (by omega) rfl rfl rfl dX1_print_94 (fun H5 hMOn hf5 => ?_)
        replace hML := hML.fr hf5 (by omega)
        replace hME := hME.fr hf5 (by omega)
        replace hMF := hMF.fr hf5 (by omega)
        replace hMU := hMU.fr hf5 (by omega)
        replace hMO : Ob D w 1 [.ref (w + 1), .ref (w + 3), .int (J (if la < x then x else la)), .int (J (al + (x - o))), .int (J lo), .ref (w + 5), .ref (w + 7)] H5 := hMOn
        clear hMOn
        refine g_aload_n (pc := 97) (pl := 0) X dX1_print_97 rfl ?_
        refine g_aload_n (pc := 98) (pl := 0) X dX1_print_98 rfl ?_
        refine g_getf (pc := 99) X zF_X1_print_76 hMO rfl dX1_print_99 ?_
        refine g_iload (pc := 102) (pl := 4) X dX1_print_102 rfl ?_
        refine g_iload_n (pc := 104) (pl := 2) X dX1_print_104 rfl ?_
        refine g_isub (pc := 105) X dX1_print_105 ?_
        refine g_mmax (pc := 106) X (by omega) (by omega) (by decide +kernel) (by decide +kernel) (by decide +kernel) (by decide +kernel) (by decide) (Nat.le_of_ble_eq_true rfl) (by decide) dX1_print_106 ?_
        refine g_putf (pc := 109) X zW_X1_print_76 hMO (by omega) rfl rfl rfl dX1_print_109 (fun H6 hMOn hf6 => ?_)
        replace hML := hML.fr hf6 (by omega)
        replace hME := hME.fr hf6 (by omega)
        replace hMF := hMF.fr hf6 (by omega)
        replace hMU := hMU.fr hf6 (by omega)
        replace hMO : Ob D w 1 [.ref (w + 1), .ref (w + 3), .int (J (if la < x then x else la)), .int (J (al + (x - o))), .int (J (if lo < x - o then x - o else lo)), .ref (w + 5), .ref (w + 7)] H6 := hMOn
        clear hMOn
        refine g_vret (pc := 112) X R hH dX1_print_112 ?_
        exact ⟨⟨hMO, hML, hME, hMF, hMU⟩, (Fr.trans (hfa.wide (by omega) (by omega)) (Fr.trans (hfb.wide (by omega) (by omega)) (Fr.trans (hfc.wide (by omega) (by omega)) (Fr.trans (hf4.wide (by omega) (by omega)) (Fr.trans (hf5.wide (by omega) (by omega)) (hf6.wide (by omega) (by omega)))))))⟩
      · skip
        refine g_aload_n (pc := 10) (pl := 0) X dX1_print_10 rfl ?_
        refine g_getf (pc := 11) X zF_X1_print_26 hMO rfl dX1_print_11 ?_
        refine g_iload (pc := 14) (pl := 4) X dX1_print_14 rfl ?_
        obtain ⟨hRO, -⟩ := id hMU
        refine gVi (pc := 16) (n2 := 0) (k2 := 0) X cs_X1_print_56 (c_X6_item (zl K) D base (w + 7) 76 76 U x (by omega)) rfl hRO (by omega) hMU rfl ⟨Nat.le_of_ble_eq_true rfl, Nat.le_of_ble_eq_true rfl⟩ dX1_print_16 (Nat.le_of_ble_eq_true rfl) rfl rfl (fun v16 H1 hp16 hs16 => ?_)
        obtain ⟨rfl, rfl⟩ := hp16
        rw [show itm 76 U x = U x from if_pos (by omega)]
        have hux := hU0 x (by omega)
        refine g_iload_n (pc := 19) (pl := 3) X dX1_print_19 rfl ?_
        refine g_icmp_lt (pc := 20) X 29 dX1_print_20 (by decide) (by omega) (by omega) (fun c20 => ?_) (fun c20 => ?_)
        · skip
          have hxy : x = y := by rcases Int.lt_or_le x y with z | z; exact absurd c20 (b3 x (by omega) z); omega
          subst hxy
          refine g_aload_n (pc := 29) (pl := 0) X dX1_print_29 rfl ?_
          refine g_getf (pc := 30) X zF_X1_print_26 hMO rfl dX1_print_30 ?_
          refine g_iload (pc := 33) (pl := 4) X dX1_print_33 rfl ?_
          refine g_aload_n (pc := 35) (pl := 0) X dX1_print_35 rfl ?_
          refine g_getf (pc := 36) X zF_X1_print_26 hMO rfl dX1_print_36 ?_
          refine g_iload (pc := 39) (pl := 4) X dX1_print_39 rfl ?_
          obtain ⟨hRO, -⟩ := id hMU
          refine gVi (pc := 41) (n2 := 0) (k2 := 0) X cs_X1_print_56 (c_X6_item (zl K) D base (w + 7) 76 76 U x (by omega)) rfl hRO (by omega) hMU rfl ⟨Nat.le_of_ble_eq_true rfl, Nat.le_of_ble_eq_true rfl⟩ dX1_print_41 (Nat.le_of_ble_eq_true rfl) rfl rfl (fun v41 H1 hp41 hs41 => ?_)
          obtain ⟨rfl, rfl⟩ := hp41
          rw [show itm 76 U x = U x from if_pos (by omega)]
          refine g_iconst (pc := 44) X dX1_print_44 ?_
          refine g_iadd (pc := 45) X dX1_print_45 ?_
          obtain ⟨hRO, -⟩ := id hMU
          refine gVv (pc := 46) (n2 := 0) (k2 := 0) X cs_X1_print_79 (c_X6_replace (zl K) D base (w + 7) 76 76 U x (U x + 1) (by omega) (by omega)) rfl hRO (by omega) hMU rfl ⟨Nat.le_of_ble_eq_true rfl, Nat.le_of_ble_eq_true rfl⟩ dX1_print_46 (Nat.le_of_ble_eq_true rfl) rfl rfl (fun H1 hp46 hs46 => ?_)
          obtain ⟨hMUn, hfa⟩ := hp46
          replace hMO := hMO.fr hfa (by omega)
          replace hML := hML.fr hfa (by omega)
          replace hME := hME.fr hfa (by omega)
          replace hMF := hMF.fr hfa (by omega)
          replace hMU := hMUn
          clear hMUn
          refine g_aload_n (pc := 49) (pl := 0) X dX1_print_49 rfl ?_
          refine g_getf (pc := 50) X zF_X1_print_14 hMO rfl dX1_print_50 ?_
          refine g_iload_n (pc := 53) (pl := 1) X dX1_print_53 rfl ?_
          refine g_iload (pc := 54) (pl := 4) X dX1_print_54 rfl ?_
          obtain ⟨hRO, -⟩ := id hML
          refine gVv (pc := 56) (n2 := 0) (k2 := 0) X cs_X1_print_79 (c_X6_replace (zl K) D base (w + 1) 16 k L n x (by omega) (by omega)) rfl hRO (by omega) hML rfl ⟨Nat.le_of_ble_eq_true rfl, Nat.le_of_ble_eq_true rfl⟩ dX1_print_56 (Nat.le_of_ble_eq_true rfl) rfl rfl (fun H2 hp56 hs56 => ?_)
          obtain ⟨hMLn, hfb⟩ := hp56
          replace hMO := hMO.fr hfb (by omega)
          replace hME := hME.fr hfb (by omega)
          replace hMF := hMF.fr hfb (by omega)
          replace hMU := hMU.fr hfb (by omega)
          replace hML := hMLn
          clear hMLn
          refine g_aload_n (pc := 59) (pl := 0) X dX1_print_59 rfl ?_
          refine g_getf (pc := 60) X zF_X1_print_20 hMO rfl dX1_print_60 ?_
          refine g_iload_n (pc := 63) (pl := 1) X dX1_print_63 rfl ?_
          refine g_iload (pc := 64) (pl := 4) X dX1_print_64 rfl ?_
          refine g_iload_n (pc := 66) (pl := 2) X dX1_print_66 rfl ?_
          refine g_isub (pc := 67) X dX1_print_67 ?_
          obtain ⟨hRO, -⟩ := id hME
          refine gVv (pc := 68) (n2 := 0) (k2 := 0) X cs_X1_print_79 (c_X6_replace (zl K) D base (w + 3) 16 k E n (x - o) (by omega) (by omega)) rfl hRO (by omega) hME rfl ⟨Nat.le_of_ble_eq_true rfl, Nat.le_of_ble_eq_true rfl⟩ dX1_print_68 (Nat.le_of_ble_eq_true rfl) rfl rfl (fun H3 hp68 hs68 => ?_)
          obtain ⟨hMEn, hfc⟩ := hp68
          replace hMO := hMO.fr hfc (by omega)
          replace hML := hML.fr hfc (by omega)
          replace hMF := hMF.fr hfc (by omega)
          replace hMU := hMU.fr hfc (by omega)
          replace hME := hMEn
          clear hMEn
          refine g_aload_n (pc := 71) (pl := 0) X dX1_print_71 rfl ?_
          refine g_aload_n (pc := 72) (pl := 0) X dX1_print_72 rfl ?_
          refine g_getf (pc := 73) X zF_X1_print_70 hMO rfl dX1_print_73 ?_
          refine g_iload (pc := 76) (pl := 4) X dX1_print_76 rfl ?_
          refine g_mmax (pc := 78) X (by omega) (by omega) (by decide +kernel) (by decide +kernel) (by decide +kernel) (by decide +kernel) (by decide) (Nat.le_of_ble_eq_true rfl) (by decide) dX1_print_78 ?_
          refine g_putf (pc := 81) X zW_X1_print_70 hMO (by omega) rfl rfl rfl dX1_print_81 (fun H4 hMOn hf4 => ?_)
          replace hML := hML.fr hf4 (by omega)
          replace hME := hME.fr hf4 (by omega)
          replace hMF := hMF.fr hf4 (by omega)
          replace hMU := hMU.fr hf4 (by omega)
          replace hMO : Ob D w 1 [.ref (w + 1), .ref (w + 3), .int (J (if la < x then x else la)), .int (J al), .int (J lo), .ref (w + 5), .ref (w + 7)] H4 := hMOn
          clear hMOn
          refine g_aload_n (pc := 84) (pl := 0) X dX1_print_84 rfl ?_
          refine g_dup (pc := 85) X dX1_print_85 rfl ?_
          refine g_getf (pc := 86) X zF_X1_print_73 hMO rfl dX1_print_86 ?_
          refine g_iload (pc := 89) (pl := 4) X dX1_print_89 rfl ?_
          refine g_iload_n (pc := 91) (pl := 2) X dX1_print_91 rfl ?_
          refine g_isub (pc := 92) X dX1_print_92 ?_
          refine g_iadd (pc := 93) X dX1_print_93 ?_
          refine g_putf (pc := 94) X zW_X1_print_73 hMO (by omega) rfl rfl rfl dX1_print_94 (fun H5 hMOn hf5 => ?_)
          replace hML := hML.fr hf5 (by omega)
          replace hME := hME.fr hf5 (by omega)
          replace hMF := hMF.fr hf5 (by omega)
          replace hMU := hMU.fr hf5 (by omega)
          replace hMO : Ob D w 1 [.ref (w + 1), .ref (w + 3), .int (J (if la < x then x else la)), .int (J (al + (x - o))), .int (J lo), .ref (w + 5), .ref (w + 7)] H5 := hMOn
          clear hMOn
          refine g_aload_n (pc := 97) (pl := 0) X dX1_print_97 rfl ?_
          refine g_aload_n (pc := 98) (pl := 0) X dX1_print_98 rfl ?_
          refine g_getf (pc := 99) X zF_X1_print_76 hMO rfl dX1_print_99 ?_
          refine g_iload (pc := 102) (pl := 4) X dX1_print_102 rfl ?_
          refine g_iload_n (pc := 104) (pl := 2) X dX1_print_104 rfl ?_
          refine g_isub (pc := 105) X dX1_print_105 ?_
          refine g_mmax (pc := 106) X (by omega) (by omega) (by decide +kernel) (by decide +kernel) (by decide +kernel) (by decide +kernel) (by decide) (Nat.le_of_ble_eq_true rfl) (by decide) dX1_print_106 ?_
          refine g_putf (pc := 109) X zW_X1_print_76 hMO (by omega) rfl rfl rfl dX1_print_109 (fun H6 hMOn hf6 => ?_)
          replace hML := hML.fr hf6 (by omega)
          replace hME := hME.fr hf6 (by omega)
          replace hMF := hMF.fr hf6 (by omega)
          replace hMU := hMU.fr hf6 (by omega)
          replace hMO : Ob D w 1 [.ref (w + 1), .ref (w + 3), .int (J (if la < x then x else la)), .int (J (al + (x - o))), .int (J (if lo < x - o then x - o else lo)), .ref (w + 5), .ref (w + 7)] H6 := hMOn
          clear hMOn
          refine g_vret (pc := 112) X R hH dX1_print_112 ?_
          exact ⟨⟨hMO, hML, hME, hMF, hMU⟩, (Fr.trans (hfa.wide (by omega) (by omega)) (Fr.trans (hfb.wide (by omega) (by omega)) (Fr.trans (hfc.wide (by omega) (by omega)) (Fr.trans (hf4.wide (by omega) (by omega)) (Fr.trans (hf5.wide (by omega) (by omega)) (hf6.wide (by omega) (by omega)))))))⟩
        · skip
          have hxn : ¬ x = y := fun z => by rw [z] at c20; omega
          refine g_iinc (pc := 23) (pl := 4) (x := x) (lv' := [(4, _), (0, _), (1, _), (2, _), (3, _)]) X dX1_print_23 rfl (by decide) rfl ?_
          refine g_goto (pc := 26) X 3 dX1_print_26 (by decide) ?_
          refine G.pick [1, 2, 3, 4, 0] (lv' := [(0, _), (1, _), (2, _), (3, _), (4, _)]) rfl ?_
          exact ih3 (x + 1) (by omega) (by omega)
  refine G.pick [1, 2, 3, 4, 0] (lv' := [(0, _), (1, _), (2, _), (3, _), (4, _)]) rfl ?_
  exact hL3 _ o (Nat.lt_succ_self _) (by omega)

abbrev rm_X1_layOut : Room := { frames := 3, cells := 0, slots := 0, locals := 68 }
theorem cs_X1_layOut_29 : zCV RX1 wsX1_layOut 29 1 yX1_empty wsX1_empty cX1_empty 2 none rm_X1_layOut rm_X1_empty 0 := ⟨_, _, gX1_layOut_X1_empty, rfl, ⟨by decide +kernel, by decide +kernel, by decide +kernel⟩, ⟨Nat.le_of_ble_eq_true rfl, Nat.le_of_ble_eq_true rfl⟩, rfl, rfl⟩
theorem zF_X1_layOut_32 : zF RX1 wsX1_layOut 4 4 32 := ⟨RX4, TX4, 6, rfl, by decide +kernel, by decide, by decide +kernel⟩
theorem zF_X1_layOut_50 : zF RX1 wsX1_layOut 4 1 50 := ⟨RX4, TX4, 6, rfl, by decide +kernel, by decide, by decide +kernel⟩
theorem zF_X1_layOut_53 : zF RX1 wsX1_layOut 6 1 53 := ⟨RX6, TX6, 2, rfl, by decide +kernel, by decide, by decide +kernel⟩
theorem zF_X1_layOut_23 : zF RX1 wsX1_layOut 1 5 23 := ⟨RX1, TX1, 7, rfl, by decide +kernel, by decide, by decide +kernel⟩
theorem cs_X1_layOut_56 : zCV RX1 wsX1_layOut 56 6 yX6_item wsX6_item cX6_item 2 (some .int) rm_X1_layOut rm_X6_item 1 := ⟨_, _, gX1_layOut_X6_item, rfl, ⟨by decide +kernel, by decide +kernel, by decide +kernel⟩, ⟨Nat.le_of_ble_eq_true rfl, Nat.le_of_ble_eq_true rfl⟩, rfl, rfl⟩
theorem cs_X1_layOut_60 : zCV RX1 wsX1_layOut 60 4 yX4_lineOf wsX4_lineOf cX4_lineOf 3 (some .int) rm_X1_layOut rm_X4_lineOf 1 := ⟨_, _, gX1_layOut_X4_lineOf, rfl, ⟨by decide +kernel, by decide +kernel, by decide +kernel⟩, ⟨Nat.le_of_ble_eq_true rfl, Nat.le_of_ble_eq_true rfl⟩, rfl, rfl⟩
theorem cs_X1_layOut_63 : zCV RX1 wsX1_layOut 63 1 yX1_print wsX1_print cX1_print 5 none rm_X1_layOut rm_X1_print 3 := ⟨_, _, gX1_layOut_X1_print, rfl, ⟨by decide +kernel, by decide +kernel, by decide +kernel⟩, ⟨Nat.le_of_ble_eq_true rfl, Nat.le_of_ble_eq_true rfl⟩, rfl, rfl⟩
theorem cs_X1_layOut_38 : zCV RX1 wsX1_layOut 38 4 yX4_piecesOf wsX4_piecesOf cX4_piecesOf 2 (some (.object "AnchoredNotes$Pieces")) rm_X1_layOut rm_X4_piecesOf 1 := ⟨_, _, gX1_layOut_X4_piecesOf, rfl, ⟨by decide +kernel, by decide +kernel, by decide +kernel⟩, ⟨Nat.le_of_ble_eq_true rfl, Nat.le_of_ble_eq_true rfl⟩, rfl, rfl⟩
theorem zF_X1_layOut_42 : zF RX1 wsX1_layOut 5 2 42 := ⟨RX5, TX5, 4, rfl, by decide +kernel, by decide, by decide +kernel⟩
theorem cs_X1_layOut_47 : zCV RX1 wsX1_layOut 47 6 yX6_add wsX6_add cX6_add 2 none rm_X1_layOut rm_X6_add 1 := ⟨_, _, gX1_layOut_X6_add, rfl, ⟨by decide +kernel, by decide +kernel, by decide +kernel⟩, ⟨Nat.le_of_ble_eq_true rfl, Nat.le_of_ble_eq_true rfl⟩, rfl, rfl⟩
theorem zF_X1_layOut_14 : zF RX1 wsX1_layOut 1 0 14 := ⟨RX1, TX1, 7, rfl, by decide +kernel, by decide, by decide +kernel⟩
theorem zF_X1_layOut_20 : zF RX1 wsX1_layOut 1 1 20 := ⟨RX1, TX1, 7, rfl, by decide +kernel, by decide, by decide +kernel⟩
set_option maxRecDepth 100000 in
theorem c_X1_layOut (l : Launch) (D : zD) (base : Nat) (w : Nat) (k u : Int) (F L E U : Int → Int) (la al lo : Int) (q : Nat) (g : Int → Int) (room : Int) (hw : base ≤ w) (hq : base ≤ q) (hd : w + 9 ≤ q ∨ q + 121 ≤ w) (hI : PInv g) (hr : 1 ≤ room ∧ rg room) : Ct l yX1_layOut wsX1_layOut rm_X1_layOut D base [.ref w, .ref q, .int (J room)] (fun H => MgAt D w k u F L E U la al lo H ∧ PageAt D q g H) (PV (fun H H1 => PageAt D q g H1 ∧ MgAt D w (g 1) 76 (ntF g) (prA g room (g 0).toNat).2.1 (prA g room (g 0).toNat).2.2 (prA g room (g 0).toNat).1 (mxL (prA g room (g 0).toNat).2.1 (g 1).toNat) (sumI (ldr (prA g room (g 0).toNat).2.1 (prA g room (g 0).toNat).2.2) (g 1).toNat) (mxE (prA g room (g 0).toNat).2.1 (prA g room (g 0).toNat).2.2 (g 1).toNat) H1 ∧ Fr (Un w (w + 9) (q + 8) (q + 9)) 0 H H1)) := by
  refine Ct.of (own := RX1) (cc := cX1_layOut) (maxL := 5) (by decide +kernel) rfl (Nat.le_of_ble_eq_true rfl) rfl ?_
  intro K H X R hH hnm hP
  show G K 0 0 H 0 [(0, .ref w), (1, .ref q), (2, .int (J room))] []
  obtain ⟨hM, hX⟩ := hP
  have hnum := hI.nums
  obtain ⟨hMO, -⟩ := id hM
  obtain ⟨hO, hS, hL, hW, hN, hQ, hk0, hk1⟩ := id hX
  refine g_aload_n (pc := 0) (pl := 0) X dX1_layOut_0 rfl ?_
  refine gVv (pc := 1) (n2 := 0) (k2 := 0) X cs_X1_layOut_29 (c_X1_empty (zl K) D base w k u F L E U la al lo hw) rfl hMO (by omega) hM rfl ⟨Nat.le_of_ble_eq_true rfl, Nat.le_of_ble_eq_true rfl⟩ dX1_layOut_1 (Nat.le_of_ble_eq_true rfl) rfl rfl (fun H1 hp1 hs1 => ?_)
  obtain ⟨hMn, hf0⟩ := hp1
  replace hO := hO.fr hf0 (by omega)
  replace hS := hS.fr hf0 (by omega)
  replace hL := hL.fr hf0 (by omega)
  replace hW := hW.fr hf0 (by omega)
  replace hN := hN.fr hf0 (by omega)
  replace hQ := hQ.fr hf0 (by omega)
  clear hM hMO
  have hM := hMn
  clear hMn
  obtain ⟨hMO, hML, hME, hMF, hMU⟩ := hM
  refine g_iconst (pc := 4) X dX1_layOut_4 ?_
  refine g_istore_n (pc := 5) (lv' := [(3, _), (0, _), (1, _), (2, _)]) X dX1_layOut_5 (by decide) rfl ?_
  have hL6 : ∀ (fu : Nat) (x : Int) (Hx : Heap), (g 1 - x).toNat < fu → (0 ≤ x ∧ x ≤ g 1) → (Ob D w 1 [.ref (w + 1), .ref (w + 3), .int (J (-6)), .int (J 0), .int (J 0), .ref (w + 5), .ref (w + 7)] Hx) → (RowAt D (w + 1) 16 x (fun _ => -6) Hx) → (RowAt D (w + 3) 16 x (fun _ => -6) Hx) → (RowAt D (w + 5) 16 x (ntF g) Hx) → (RowAt D (w + 7) 76 76 (fun _ => 0) Hx) → (PageAt D q g Hx) → (Fr (Un w (w + 9) (q + 8) (q + 9)) 0 H Hx) → G K 0 0 Hx 6 [(0, .ref w), (1, .ref q), (2, .int (J room)), (3, .int (J x))] [] := by
    intro fu
    induction fu with
    | zero => intro x Hx hm; exact absurd hm (Nat.not_lt_zero _)
    | succ fu ih6 =>
      intro x Hx hm h1 hMO hML hME hMF hMU hX h3
      obtain ⟨hO, hS, hL, hW, hN, hQ, hk0, hk1⟩ := id hX
      refine g_iload_n (pc := 6) (pl := 3) X dX1_layOut_6 rfl ?_
      refine g_aload_n (pc := 7) (pl := 1) X dX1_layOut_7 rfl ?_
      refine g_getf (pc := 8) X zF_X1_layOut_32 hO rfl dX1_layOut_8 ?_
      refine g_icmp_ge (pc := 11) X 53 dX1_layOut_11 (by decide) (by omega) (by omega) (fun c11 => ?_) (fun c11 => ?_)
      · skip
        refine g_iconst (pc := 53) X dX1_layOut_53 ?_
        refine g_istore_n (pc := 54) (lv' := [(3, _), (0, _), (1, _), (2, _)]) X dX1_layOut_54 (by decide) rfl ?_
        have hL55 : ∀ (fu : Nat) (n : Nat) (ni : Int) (S : PS) (la al lo : Int) (Hx : Heap), (g 0).toNat - n < fu → (ni = (n : Int)) → ((n : Int) ≤ g 0) → (prA g room n = S) → (PrOk g (n : Int) 0 S) → (la = mxL S.2.1 (g 1).toNat ∧ al = sumI (ldr S.2.1 S.2.2) (g 1).toNat ∧ lo = mxE S.2.1 S.2.2 (g 1).toNat) → (-6 ≤ la ∧ la ≤ 75 ∧ 0 ≤ lo ∧ lo ≤ 75) → (MgAt D w (g 1) 76 (ntF g) S.2.1 S.2.2 S.1 la al lo Hx) → (PageAt D q g Hx) → (Fr (Un w (w + 9) (q + 8) (q + 9)) 0 H Hx) → G K 0 0 Hx 55 [(0, .ref w), (1, .ref q), (2, .int (J room)), (3, .int (J ni))] [] := by
          intro fu
          induction fu with
          | zero => intro n ni S la al lo Hx hm; exact absurd hm (Nat.not_lt_zero _)
          | succ fu ih55 =>
            intro n ni S la al lo Hx hm he h1 hS0 hPk hla hrg hM hX h3
            subst he
            obtain ⟨hO, hS, hL, hW, hN, hQ, hk0, hk1⟩ := id hX
            obtain ⟨hMO, hML, hME, hMF, hMU⟩ := id hM
            refine g_iload_n (pc := 55) (pl := 3) X dX1_layOut_55 rfl ?_
            refine g_aload_n (pc := 56) (pl := 1) X dX1_layOut_56 rfl ?_
            refine g_getf (pc := 57) X zF_X1_layOut_50 hO rfl dX1_layOut_57 ?_
            obtain ⟨hRO, -⟩ := id hL
            refine g_getf (pc := 60) X zF_X1_layOut_53 hRO rfl dX1_layOut_60 ?_
            refine g_icmp_ge (pc := 63) X 115 dX1_layOut_63 (by decide) (by omega) (by omega) (fun c63 => ?_) (fun c63 => ?_)
            · skip
              refine g_vret (pc := 115) X R hH dX1_layOut_115 ?_
              have en : (g 0).toNat = n := by omega
              obtain ⟨rfl, rfl, rfl⟩ := hla
              rw [en, hS0]
              exact ⟨⟨hO, hS, hL, hW, hN, hQ, hk0, hk1⟩, ⟨hMO, hML, hME, hMF, hMU⟩, h3⟩
            · skip
              refine g_iconst (pc := 66) X dX1_layOut_66 ?_
              refine g_istore (pc := 67) (lv' := [(4, _), (0, _), (1, _), (2, _), (3, _)]) X dX1_layOut_67 (by decide) rfl ?_
              have hL69 : ∀ (fu : Nat) (m : Nat) (mi : Int) (S : PS) (la al lo : Int) (Hx : Heap), (g 1).toNat - m < fu → (mi = (m : Int)) → ((m : Int) ≤ g 1) → (prP g room (n : Int) m (prA g room n) = S) → (PrOk g (n : Int) (m : Int) S) → (la = mxL S.2.1 (g 1).toNat ∧ al = sumI (ldr S.2.1 S.2.2) (g 1).toNat ∧ lo = mxE S.2.1 S.2.2 (g 1).toNat) → (-6 ≤ la ∧ la ≤ 75 ∧ 0 ≤ lo ∧ lo ≤ 75) → (MgAt D w (g 1) 76 (ntF g) S.2.1 S.2.2 S.1 la al lo Hx) → (PageAt D q g Hx) → (Fr (Un w (w + 9) (q + 8) (q + 9)) 0 H Hx) → G K 0 0 Hx 69 [(0, .ref w), (1, .ref q), (2, .int (J room)), (3, .int (J (n : Int))), (4, .int (J mi))] [] := by
                intro fu
                induction fu with
                | zero => intro m mi S la al lo Hx hm; exact absurd hm (Nat.not_lt_zero _)
                | succ fu ih69 =>
                  intro m mi S la al lo Hx hm he2 h2 hS2 hPk hla hrg hM hX h3
                  subst he2
                  obtain ⟨hO, hS, hL, hW, hN, hQ, hk0, hk1⟩ := id hX
                  obtain ⟨hMO, hML, hME, hMF, hMU⟩ := id hM
                  refine g_iload (pc := 69) (pl := 4) X dX1_layOut_69 rfl ?_
                  refine g_aload_n (pc := 71) (pl := 1) X dX1_layOut_71 rfl ?_
                  refine g_getf (pc := 72) X zF_X1_layOut_32 hO rfl dX1_layOut_72 ?_
                  refine g_icmp_ge (pc := 75) X 109 dX1_layOut_75 (by decide) (by omega) (by omega) (fun c75 => ?_) (fun c75 => ?_)
                  · skip
                    refine g_iinc (pc := 109) (pl := 3) (x := (n : Int)) (lv' := [(3, _), (0, _), (1, _), (2, _), (4, _)]) X dX1_layOut_109 rfl (by decide) rfl ?_
                    refine g_goto (pc := 112) X 55 dX1_layOut_112 (by decide) ?_
                    refine G.pick [1, 2, 3, 0] (lv' := [(0, _), (1, _), (2, _), (3, _)]) rfl ?_
                    have em : (g 1).toNat = m := by omega
                    have hA1 : prA g room (n + 1) = S := by show prP g room (n : Int) (g 1).toNat (prA g room n) = S; rw [em]; exact hS2
                    exact ih55 (n + 1) _ S la al lo Hx (by omega) (by omega) (by omega) hA1 (hPk.next (by omega)) hla hrg ⟨hMO, hML, hME, hMF, hMU⟩ ⟨hO, hS, hL, hW, hN, hQ, hk0, hk1⟩ h3
                  · skip
                    refine g_aload_n (pc := 78) (pl := 0) X dX1_layOut_78 rfl ?_
                    refine g_getf (pc := 79) X zF_X1_layOut_23 hMO rfl dX1_layOut_79 ?_
                    refine g_iload (pc := 82) (pl := 4) X dX1_layOut_82 rfl ?_
                    obtain ⟨hRO, -⟩ := id hMF
                    refine gVi (pc := 84) (n2 := 0) (k2 := 0) X cs_X1_layOut_56 (c_X6_item (zl K) D base (w + 5) 16 (g 1) (ntF g) (m : Int) (by omega)) rfl hRO (by omega) hMF rfl ⟨Nat.le_of_ble_eq_true rfl, Nat.le_of_ble_eq_true rfl⟩ dX1_layOut_84 (Nat.le_of_ble_eq_true rfl) rfl rfl (fun v84 H2 hp84 hs84 => ?_)
                    obtain ⟨rfl, rfl⟩ := hp84
                    rw [show itm (g 1) (ntF g) (m : Int) = ntF g (m : Int) from if_pos (by omega)]
                    have hsb := nt_bd g (m : Int)
                    refine g_iload_n (pc := 87) (pl := 3) X dX1_layOut_87 rfl ?_
                    refine g_icmp_ne (pc := 88) X 103 dX1_layOut_88 (by decide) (by omega) (by omega) (fun c88 => ?_) (fun c88 => ?_)
                    · skip
                      have hPN : prN g room (n : Int) (m : Int) S = S := if_neg c88
                      refine g_iinc (pc := 103) (pl := 4) (x := (m : Int)) (lv' := [(4, _), (0, _), (1, _), (2, _), (3, _)]) X dX1_layOut_103 rfl (by decide) rfl ?_
                      refine g_goto (pc := 106) X 69 dX1_layOut_106 (by decide) ?_
                      refine G.pick [1, 2, 3, 4, 0] (lv' := [(0, _), (1, _), (2, _), (3, _), (4, _)]) rfl ?_
                      have hPk2 := hPk.step hI (by omega) (by omega) hr.1
                      have hS3 : prP g room (n : Int) (m + 1) (prA g room n) = prN g room (n : Int) (m : Int) S := by show prN g room (n : Int) (m : Int) (prP g room (n : Int) m (prA g room n)) = _; rw [hS2]
                      rw [hPN] at hPk2 hS3
                      exact ih69 (m + 1) _ S la al lo Hx (by omega) (by omega) (by omega) hS3 hPk2 hla hrg ⟨hMO, hML, hME, hMF, hMU⟩ ⟨hO, hS, hL, hW, hN, hQ, hk0, hk1⟩ h3
                    · skip
                      have hfn : ntF g (m : Int) = (n : Int) := by omega
                      have hln := hPk.line hI (by omega) (by omega) hfn hr.1
                      obtain ⟨y0, hy0⟩ : ∃ z, flin S.1 room 76 ((n : Int) / g 3) = z := ⟨_, rfl⟩
                      rw [hy0] at hln
                      have hus := hPk.used
                      have hPN : prN g room (n : Int) (m : Int) S = (up S.1 y0 (S.1 y0 + 1), up S.2.1 (m : Int) y0, up S.2.2 (m : Int) (y0 - (n : Int) / g 3)) := by unfold prN; rw [if_pos hfn, hy0]
                      refine g_aload_n (pc := 91) (pl := 0) X dX1_layOut_91 rfl ?_
                      refine g_iload (pc := 92) (pl := 4) X dX1_layOut_92 rfl ?_
                      refine g_aload_n (pc := 94) (pl := 1) X dX1_layOut_94 rfl ?_
                      refine g_iload_n (pc := 95) (pl := 3) X dX1_layOut_95 rfl ?_
                      refine gVi (pc := 96) (n2 := 0) (k2 := 0) X cs_X1_layOut_60 (c_X4_lineOf (zl K) D base q g (n : Int) hq hI (by omega)) rfl hO (by omega) ⟨hO, hS, hL, hW, hN, hQ, hk0, hk1⟩ rfl ⟨Nat.le_of_ble_eq_true rfl, Nat.le_of_ble_eq_true rfl⟩ dX1_layOut_96 (Nat.le_of_ble_eq_true rfl) rfl rfl (fun v96 H2 hp96 hs96 => ?_)
                      obtain ⟨rfl, rfl⟩ := hp96
                      refine g_iload_n (pc := 99) (pl := 2) X dX1_layOut_99 rfl ?_
                      refine gVv (pc := 100) (n2 := 0) (k2 := 0) X cs_X1_layOut_63 (c_X1_print (zl K) D base w (m : Int) ((n : Int) / g 3) room y0 (g 1) (ntF g) S.2.1 S.2.2 S.1 la al lo hw (by omega) (by omega) ⟨hy0, by omega, by omega⟩ (fun j _ => hus j) hr.2 (by omega) (by omega)) rfl hMO (by omega) ⟨hMO, hML, hME, hMF, hMU⟩ rfl ⟨Nat.le_of_ble_eq_true rfl, Nat.le_of_ble_eq_true rfl⟩ dX1_layOut_100 (Nat.le_of_ble_eq_true rfl) rfl rfl (fun H2 hp100 hs100 => ?_)
                      obtain ⟨hMn, hfe⟩ := hp100
                      replace hO := hO.fr hfe (by omega)
                      replace hS := hS.fr hfe (by omega)
                      replace hL := hL.fr hfe (by omega)
                      replace hW := hW.fr hfe (by omega)
                      replace hN := hN.fr hfe (by omega)
                      replace hQ := hQ.fr hfe (by omega)
                      clear hMO hML hME hMF hMU
                      obtain ⟨hMO, hML, hME, hMF, hMU⟩ := hMn
                      refine g_iinc (pc := 103) (pl := 4) (x := (m : Int)) (lv' := [(4, _), (0, _), (1, _), (2, _), (3, _)]) X dX1_layOut_103 rfl (by decide) rfl ?_
                      refine g_goto (pc := 106) X 69 dX1_layOut_106 (by decide) ?_
                      refine G.pick [1, 2, 3, 4, 0] (lv' := [(0, _), (1, _), (2, _), (3, _), (4, _)]) rfl ?_
                      have hPk2 := hPk.step hI (by omega) (by omega) hr.1
                      have hS3 : prP g room (n : Int) (m + 1) (prA g room n) = prN g room (n : Int) (m : Int) S := by show prN g room (n : Int) (m : Int) (prP g room (n : Int) m (prA g room n)) = _; rw [hS2]
                      rw [hPN] at hPk2 hS3
                      have hmk : (0 : Int) ≤ (m : Int) ∧ (m : Int) < ((g 1).toNat : Int) := by omega
                      obtain ⟨hln1, -⟩ := id hln
                      have q1 := (mxL_up (n := (m : Int)) (l := y0) hln1 (by omega) (g 1).toNat).2
                      rw [if_pos hmk, ← hla.1] at q1
                      have q2 := ldr_sum (E := S.2.2) (n := (m : Int)) (l := y0) (e := y0 - (n : Int) / g 3) hln1 (by omega) (g 1).toNat
                      rw [if_pos hmk, ← hla.2.1] at q2
                      have q3 := (mxE_up (E := S.2.2) (n := (m : Int)) (l := y0) (e := y0 - (n : Int) / g 3) hln1 (by omega) (by omega) (g 1).toNat).2
                      rw [if_pos hmk, ← hla.2.2] at q3
                      exact ih69 (m + 1) _ (up S.1 y0 (S.1 y0 + 1), up S.2.1 (m : Int) y0, up S.2.2 (m : Int) (y0 - (n : Int) / g 3)) _ _ _ H2 (by omega) (by omega) (by omega) hS3 hPk2 ⟨q1.symm, q2.symm, q3.symm⟩ (by refine ⟨?_, ?_, ?_, ?_⟩ <;> split <;> omega) ⟨hMO, hML, hME, hMF, hMU⟩ ⟨hO, hS, hL, hW, hN, hQ, hk0, hk1⟩ (Fr.trans h3 (hfe.un (by omega)))
              refine G.pick [1, 2, 3, 4, 0] (lv' := [(0, _), (1, _), (2, _), (3, _), (4, _)]) rfl ?_
              exact hL69 _ 0 _ S la al lo Hx (Nat.lt_succ_self _) rfl (by omega) hS0 hPk hla hrg ⟨hMO, hML, hME, hMF, hMU⟩ ⟨hO, hS, hL, hW, hN, hQ, hk0, hk1⟩ h3
        refine G.pick [1, 2, 3, 0] (lv' := [(0, _), (1, _), (2, _), (3, _)]) rfl ?_
        have ex : x = g 1 := by omega
        rw [ex] at hML hME hMF
        exact hL55 _ 0 _ (fun _ => 0, fun _ => -6, fun _ => -6) (-6) 0 0 Hx (Nat.lt_succ_self _) rfl (by omega) rfl (PrOk.start g) ⟨(mxL_none _).symm, (ldr_none _).symm, (mxE_none _).symm⟩ (by omega) ⟨hMO, hML, hME, hMF, hMU⟩ ⟨hO, hS, hL, hW, hN, hQ, hk0, hk1⟩ h3
      · skip
        refine g_aload_n (pc := 14) (pl := 0) X dX1_layOut_14 rfl ?_
        refine g_getf (pc := 15) X zF_X1_layOut_23 hMO rfl dX1_layOut_15 ?_
        refine g_aload_n (pc := 18) (pl := 1) X dX1_layOut_18 rfl ?_
        refine g_iload_n (pc := 19) (pl := 3) X dX1_layOut_19 rfl ?_
        refine gVr (pc := 20) (n2 := 0) (k2 := 0) X cs_X1_layOut_38 (c_X4_piecesOf (zl K) D base q (g 1) (g 0) x (OW g) hq (by omega) hI.own) rfl hO (by omega) ⟨hO, hW, hQ⟩ rfl ⟨Nat.le_of_ble_eq_true rfl, Nat.le_of_ble_eq_true rfl⟩ dX1_layOut_20 (Nat.le_of_ble_eq_true rfl) rfl rfl (fun v20 H2 hp20 hs20 => ?_)
        obtain ⟨rfl, hQn, hfa⟩ := hp20
        replace hO := hO.fr hfa (by omega)
        replace hMO := hMO.fr hfa (by omega)
        replace hS := hS.fr hfa (by omega)
        replace hL := hL.fr hfa (by omega)
        replace hW := hW.fr hfa (by omega)
        replace hN := hN.fr hfa (by omega)
        replace hML := hML.fr hfa (by omega)
        replace hME := hME.fr hfa (by omega)
        replace hMF := hMF.fr hfa (by omega)
        replace hMU := hMU.fr hfa (by omega)
        have hQ8 : Ob D (q + 8) 5 [.int (J (ntP g x)), .int (J (ntL g x)), .int (J (ntF g x)), .int (J (ntE g x))] H2 := hQn
        replace hQ : PgP D q H2 := ⟨_, _, _, _, hQn⟩
        clear hQn
        have hsb := nt_bd g x
        refine g_getf (pc := 23) X zF_X1_layOut_42 hQ8 rfl dX1_layOut_23 ?_
        obtain ⟨hRO, -⟩ := id hMF
        refine gVv (pc := 26) (n2 := 0) (k2 := 0) X cs_X1_layOut_47 (c_X6_add (zl K) D base (w + 5) 16 x (ntF g) (ntF g x) (by omega) (by omega)) rfl hRO (by omega) hMF rfl ⟨Nat.le_of_ble_eq_true rfl, Nat.le_of_ble_eq_true rfl⟩ dX1_layOut_26 (Nat.le_of_ble_eq_true rfl) rfl rfl (fun H3 hp26 hs26 => ?_)
        obtain ⟨hMFn, hfb⟩ := hp26
        replace hO := hO.fr hfb (by omega)
        replace hMO := hMO.fr hfb (by omega)
        replace hQ8 := hQ8.fr hfb (by omega)
        replace hS := hS.fr hfb (by omega)
        replace hL := hL.fr hfb (by omega)
        replace hW := hW.fr hfb (by omega)
        replace hN := hN.fr hfb (by omega)
        replace hQ := hQ.fr hfb (by omega)
        replace hML := hML.fr hfb (by omega)
        replace hME := hME.fr hfb (by omega)
        replace hMU := hMU.fr hfb (by omega)
        replace hMF := hMFn
        clear hMFn
        refine g_aload_n (pc := 29) (pl := 0) X dX1_layOut_29 rfl ?_
        refine g_getf (pc := 30) X zF_X1_layOut_14 hMO rfl dX1_layOut_30 ?_
        refine g_bipush (pc := 33) X dX1_layOut_33 (by decide +kernel) ?_
        obtain ⟨hRO, -⟩ := id hML
        refine gVv (pc := 35) (n2 := 0) (k2 := 0) X cs_X1_layOut_47 (c_X6_add (zl K) D base (w + 1) 16 x (fun _ => -6) (-6) (by omega) (by omega)) rfl hRO (by omega) hML rfl ⟨Nat.le_of_ble_eq_true rfl, Nat.le_of_ble_eq_true rfl⟩ dX1_layOut_35 (Nat.le_of_ble_eq_true rfl) rfl rfl (fun H4 hp35 hs35 => ?_)
        obtain ⟨hMLn, hfc⟩ := hp35
        replace hO := hO.fr hfc (by omega)
        replace hMO := hMO.fr hfc (by omega)
        replace hQ8 := hQ8.fr hfc (by omega)
        replace hS := hS.fr hfc (by omega)
        replace hL := hL.fr hfc (by omega)
        replace hW := hW.fr hfc (by omega)
        replace hN := hN.fr hfc (by omega)
        replace hQ := hQ.fr hfc (by omega)
        replace hME := hME.fr hfc (by omega)
        replace hMF := hMF.fr hfc (by omega)
        replace hMU := hMU.fr hfc (by omega)
        replace hML := hMLn
        clear hMLn
        refine g_aload_n (pc := 38) (pl := 0) X dX1_layOut_38 rfl ?_
        refine g_getf (pc := 39) X zF_X1_layOut_20 hMO rfl dX1_layOut_39 ?_
        refine g_bipush (pc := 42) X dX1_layOut_42 (by decide +kernel) ?_
        obtain ⟨hRO, -⟩ := id hME
        refine gVv (pc := 44) (n2 := 0) (k2 := 0) X cs_X1_layOut_47 (c_X6_add (zl K) D base (w + 3) 16 x (fun _ => -6) (-6) (by omega) (by omega)) rfl hRO (by omega) hME rfl ⟨Nat.le_of_ble_eq_true rfl, Nat.le_of_ble_eq_true rfl⟩ dX1_layOut_44 (Nat.le_of_ble_eq_true rfl) rfl rfl (fun H5 hp44 hs44 => ?_)
        obtain ⟨hMEn, hfd⟩ := hp44
        replace hO := hO.fr hfd (by omega)
        replace hMO := hMO.fr hfd (by omega)
        replace hQ8 := hQ8.fr hfd (by omega)
        replace hS := hS.fr hfd (by omega)
        replace hL := hL.fr hfd (by omega)
        replace hW := hW.fr hfd (by omega)
        replace hN := hN.fr hfd (by omega)
        replace hQ := hQ.fr hfd (by omega)
        replace hML := hML.fr hfd (by omega)
        replace hMF := hMF.fr hfd (by omega)
        replace hMU := hMU.fr hfd (by omega)
        replace hME := hMEn
        clear hMEn
        refine g_iinc (pc := 47) (pl := 3) (x := x) (lv' := [(3, _), (0, _), (1, _), (2, _)]) X dX1_layOut_47 rfl (by decide) rfl ?_
        refine g_goto (pc := 50) X 6 dX1_layOut_50 (by decide) ?_
        refine G.pick [1, 2, 3, 0] (lv' := [(0, _), (1, _), (2, _), (3, _)]) rfl ?_
        exact ih6 (x + 1) H5 (by omega) (by omega) hMO (hML.congr up_const) (hME.congr up_const) (hMF.congr ntF_self) hMU ⟨hO, hS, hL, hW, hN, hQ, hk0, hk1⟩ (Fr.trans h3 (Fr.trans (hfa.un (by omega)) (Fr.trans (hfb.un (by omega)) (Fr.trans (hfc.un (by omega)) (hfd.un (by omega))))))
  refine G.pick [1, 2, 3, 0] (lv' := [(0, _), (1, _), (2, _), (3, _)]) rfl ?_
  exact hL6 _ 0 H1 (Nat.lt_succ_self _) (by omega) hMO (hML.congr (fun i h0 h1 => by omega)) (hME.congr (fun i h0 h1 => by omega)) (hMF.congr (fun i h0 h1 => by omega)) hMU ⟨hO, hS, hL, hW, hN, hQ, hk0, hk1⟩ (hf0.un (by omega))


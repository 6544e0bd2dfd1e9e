theorem cs_L_law_86 : zCV RL wsL_law 86 8 yX8_put wsX8_put cX8_put 5 (some .int) rm_L_law rm_X8_put 1 := ⟨_, _, gL_law_X8_put, rfl, ⟨by decide +kernel, by decide +kernel, by decide +kernel⟩, ⟨Nat.le_of_ble_eq_true rfl, Nat.le_of_ble_eq_true rfl⟩, rfl, rfl⟩
theorem cs_L_law_90 : zCV RL wsL_law 90 9 yX9_put wsX9_put cX9_put 5 (some .int) rm_L_law rm_X9_put 1 := ⟨_, _, gL_law_X9_put, rfl, ⟨by decide +kernel, by decide +kernel, by decide +kernel⟩, ⟨Nat.le_of_ble_eq_true rfl, Nat.le_of_ble_eq_true rfl⟩, rfl, rfl⟩
set_option maxRecDepth 100000 in
set_option maxHeartbeats 4000000 in
theorem lc_put {K : zC} {D : zD} {base : Nat} (X : GX K cL_law RL wsL_law D base rm_L_law 4) {b L : Nat} {xs : Nat → Int32} (hX : va_X b L xs (zs K) (zs K).heap) (hbl : b < (zs K).heap.size) (hbb : b < base) (hL : L ≤ 2048) {x : Nat} (hq : base ≤ x) {i : Int} (hi : 0 ≤ i ∧ i + 4 ≤ (L : Int)) {c : Nat} (hc : 4 * (c : Int) = i) {m n : Int} {H : Heap} (hW : Wld D x m n H)
    (kk : ∀ (m2 n2 : Int) (H2 : Heap), Wld D x m2 n2 H2 → G K (151 + 121 * c + 121) (17884 + 4272 * c + 4272) H2 796 [(0, .ref b), (1, .ref x), (2, .ref (x + 140)), (3, .int (J i))] []) : G K (151 + 121 * c) (17884 + 4272 * c) H 645 [(0, .ref b), (1, .ref x), (2, .ref (x + 140)), (3, .int (J i))] [] := by
  obtain ⟨sa, sl, st, ss, f, P, hb, hA, hMd, hI, hIs, hIv, hHb, hPr, hsz⟩ := hW
  obtain ⟨hO8, -, -, -, hPd8, -, hHs8, -⟩ := id hA
  have hm6 : 0 ≤ m ∧ m ≤ 6 := hHs8.2.2.2.2
  have hpd := hPd8.bd
  clear hPd8 hHs8
  obtain ⟨a1, ha1⟩ : ∃ z, sx xs (i + 1) = z := ⟨_, rfl⟩
  have ra1 : rg a1 := by rw [← ha1]; exact sx_rg xs (i + 1)
  obtain ⟨a2, ha2⟩ : ∃ z, sx xs (i + 2) = z := ⟨_, rfl⟩
  have ra2 : rg a2 := by rw [← ha2]; exact sx_rg xs (i + 2)
  obtain ⟨u, hu0, hu⟩ : ∃ u : Nat, ((J a1).toInt64 <<< ((J 32).toInt64 &&& 63)) ||| ((J a2).toInt64 &&& 4294967295) = lg u ∧ u < 18446744073709551616 := ⟨(((J a1).toInt64 <<< ((J 32).toInt64 &&& 63)) ||| ((J a2).toInt64 &&& 4294967295)).toUInt64.toNat, (lg_self _).symm, UInt64.toNat_lt _⟩
  refine g_aload_n (pc := 645) (pl := 1) X dL_law_645 rfl ?_
  refine g_aload_n (pc := 646) (pl := 0) X dL_law_646 rfl ?_
  refine g_iload_n (pc := 647) (pl := 3) X dL_law_647 rfl ?_
  refine g_iconst (pc := 648) X dL_law_648 ?_
  refine g_iadd (pc := 649) X dL_law_649 ?_
  refine g_sld (pc := 650) (i := i + 1) X hX hbl hbb (by omega) dL_law_650 ?_
  rw [ha1]
  refine g_i2l (pc := 651) (v := (J a1).toInt64) X dL_law_651 rfl ?_
  refine g_bipush (pc := 652) X dL_law_652 (by decide +kernel) ?_
  refine g_lshl (pc := 654) (v := (J a1).toInt64 <<< ((J 32).toInt64 &&& 63)) X dL_law_654 rfl ?_
  refine g_aload_n (pc := 655) (pl := 0) X dL_law_655 rfl ?_
  refine g_iload_n (pc := 656) (pl := 3) X dL_law_656 rfl ?_
  refine g_iconst (pc := 657) X dL_law_657 ?_
  refine g_iadd (pc := 658) X dL_law_658 ?_
  refine g_sld (pc := 659) (i := i + 2) X hX hbl hbb (by omega) dL_law_659 ?_
  rw [ha2]
  refine g_i2l (pc := 660) (v := (J a2).toInt64) X dL_law_660 rfl ?_
  refine g_ldc2 (pc := 661) (v := 4294967295) X (by decide +kernel) dL_law_661 ?_
  refine g_land (pc := 664) (z := (J a2).toInt64 &&& 4294967295) X dL_law_664 rfl ?_
  refine g_lor (pc := 665) (z := lg u) X dL_law_665 hu0 ?_
  refine gVi (pc := 666) (n2 := 151 + 121 * c + 0) (k2 := 17884 + 4272 * c + 0) X cs_L_law_86 (c_X8_put (zl K) D base x (x + 151) m sa sl st ss f n P u hq (by omega) hI hu) rfl hO8 (by omega) hA rfl ⟨(by show 151 + 121 * c + 0 ≤ 600000; omega), (by show 17884 + 4272 * c + 0 ≤ 7302250; omega)⟩ dL_law_666 (Nat.le_of_ble_eq_true rfl) rfl rfl (fun v666 H1 hp666 hs666 => ?_)
  obtain ⟨rfl, hA1, hFx⟩ := hp666
  have hMd1 := hMd.fx hFx (by omega)
  have hsz1 : x + 151 ≤ H1.size := by have := hFx.1; omega
  obtain ⟨⟨q1, q2, q3, q4, q5, hO9⟩, hNw, hPa, hSv, hPd, ⟨W, hOr⟩, hLn, ⟨T, hTk⟩⟩ := id hMd1
  refine g_aload_n (pc := 669) (pl := 2) X dL_law_669 rfl ?_
  refine g_aload_n (pc := 670) (pl := 0) X dL_law_670 rfl ?_
  refine g_iload_n (pc := 671) (pl := 3) X dL_law_671 rfl ?_
  refine g_iconst (pc := 672) X dL_law_672 ?_
  refine g_iadd (pc := 673) X dL_law_673 ?_
  refine g_sld (pc := 674) (i := i + 1) X hX hbl hbb (by omega) dL_law_674 ?_
  rw [ha1]
  refine g_i2l (pc := 675) (v := (J a1).toInt64) X dL_law_675 rfl ?_
  refine g_bipush (pc := 676) X dL_law_676 (by decide +kernel) ?_
  refine g_lshl (pc := 678) (v := (J a1).toInt64 <<< ((J 32).toInt64 &&& 63)) X dL_law_678 rfl ?_
  refine g_aload_n (pc := 679) (pl := 0) X dL_law_679 rfl ?_
  refine g_iload_n (pc := 680) (pl := 3) X dL_law_680 rfl ?_
  refine g_iconst (pc := 681) X dL_law_681 ?_
  refine g_iadd (pc := 682) X dL_law_682 ?_
  refine g_sld (pc := 683) (i := i + 2) X hX hbl hbb (by omega) dL_law_683 ?_
  rw [ha2]
  refine g_i2l (pc := 684) (v := (J a2).toInt64) X dL_law_684 rfl ?_
  refine g_ldc2 (pc := 685) (v := 4294967295) X (by decide +kernel) dL_law_685 ?_
  refine g_land (pc := 688) (z := (J a2).toInt64 &&& 4294967295) X dL_law_688 rfl ?_
  refine g_lor (pc := 689) (z := lg u) X dL_law_689 hu0 ?_
  refine gVi (pc := 690) (n2 := 151 + 121 * c + 0 + 0) (k2 := 17884 + 4272 * c + 0 + 0) X cs_L_law_90 (c_X9_put (zl K) D base (x + 140) m n q1 q2 q3 q4 q5 f P u (by omega) (by omega) hu) rfl hO9 (by omega) ⟨hO9, hNw, hPd⟩ rfl ⟨(by show 151 + 121 * c + 0 + 0 ≤ 600000; omega), (by show 17884 + 4272 * c + 0 + 0 ≤ 7302250; omega)⟩ dL_law_690 (Nat.le_of_ble_eq_true rfl) rfl rfl (fun v690 H2 hp690 hs690 => ?_)
  obtain ⟨hv9, hO2, hNw2, ⟨P2, hP2, hPd2⟩, hu2⟩ := hp690
  subst hv9
  refine g_icmp_same (pc := 693) X 796 dL_law_693 (by decide) ?_
  have hFr : Fr (Iv (x + 140) (x + 151)) 0 H1 H2 := hu2.unI (by omega)
  obtain ⟨Hm, g1, g2⟩ := hu2.part
  have hMd2 : MdAt D (x + 140) m (ptN u n) f st hb ss P2 H2 := ⟨⟨_, _, _, _, _, hO2⟩, hNw2, (hPa.fr g1 (by omega)).fr g2 (by omega), (hSv.fr g1 (by omega)).fr g2 (by omega), hPd2, ⟨W, (hOr.fr g1 (by omega)).fr g2 (by omega)⟩, (hLn.fr g1 (by omega)).fr g2 (by omega), ⟨T, (hTk.fr g1 (by omega)).fr g2 (by omega)⟩⟩
  have hW2 : Wld D x m (ptN u n) H2 := ⟨sa, sl, st, ss, f, P2, hb, (hA1.far hFr).pd' (fun i i0 i1 => (hP2 i i0 i1).symm), hMd2, hI, hIs, hIv, hHb, pt_rng hPr hP2, by have := hFr.1; omega⟩
  refine G.widen (n' := 151 + 121 * c + 121) (k' := 17884 + 4272 * c + 4272) (by omega) (by omega) ?_
  exact kk _ _ _ hW2

theorem cs_L_law_91 : zCV RL wsL_law 91 8 yX8_wipe wsX8_wipe cX8_wipe 2 (some .int) rm_L_law rm_X8_wipe 0 := ⟨_, _, gL_law_X8_wipe, rfl, ⟨by decide +kernel, by decide +kernel, by decide +kernel⟩, ⟨Nat.le_of_ble_eq_true rfl, Nat.le_of_ble_eq_true rfl⟩, rfl, rfl⟩
theorem cs_L_law_95 : zCV RL wsL_law 95 9 yX9_wipe wsX9_wipe cX9_wipe 2 (some .int) rm_L_law rm_X9_wipe 0 := ⟨_, _, gL_law_X9_wipe, rfl, ⟨by decide +kernel, by decide +kernel, by decide +kernel⟩, ⟨Nat.le_of_ble_eq_true rfl, Nat.le_of_ble_eq_true rfl⟩, rfl, rfl⟩
set_option maxRecDepth 100000 in
set_option maxHeartbeats 4000000 in
theorem lc_wipe {K : zC} {D : zD} {base : Nat} (X : GX K cL_law RL wsL_law D base rm_L_law 4) {b L : Nat} {xs : Nat → Int32} (hX : va_X b L xs (zs K) (zs K).heap) (hbl : b < (zs K).heap.size) (hbb : b < base) (hL : L ≤ 2048) {x : Nat} (hq : base ≤ x) {i : Int} (hi : 0 ≤ i ∧ i + 4 ≤ (L : Int)) {c : Nat} (hc : 4 * (c : Int) = i) {m n : Int} {H : Heap} (hW : Wld D x m n H)
    (kk : ∀ (m2 n2 : Int) (H2 : Heap), Wld D x m2 n2 H2 → G K (151 + 121 * c + 121) (17884 + 4272 * c + 4272) H2 796 [(0, .ref b), (1, .ref x), (2, .ref (x + 140)), (3, .int (J i))] []) : G K (151 + 121 * c) (17884 + 4272 * c) H 698 [(0, .ref b), (1, .ref x), (2, .ref (x + 140)), (3, .int (J i))] [] := by
  obtain ⟨sa, sl, st, ss, f, P, hb, hA, hMd, hI, hIs, hIv, hHb, hPr, hsz⟩ := hW
  obtain ⟨hO8, -, -, -, hPd8, -, hHs8, -⟩ := id hA
  have hm6 : 0 ≤ m ∧ m ≤ 6 := hHs8.2.2.2.2
  have hpd := hPd8.bd
  clear hPd8 hHs8
  refine g_aload_n (pc := 698) (pl := 1) X dL_law_698 rfl ?_
  refine gVi (pc := 699) (n2 := 151 + 121 * c + 0) (k2 := 17884 + 4272 * c + 0) X cs_L_law_91 (c_X8_wipe (zl K) D base x (x + 151) m sa sl st ss f n P hq (by omega) hI ) rfl hO8 (by omega) hA rfl ⟨(by show 151 + 121 * c + 0 ≤ 600000; omega), (by show 17884 + 4272 * c + 0 ≤ 7302250; omega)⟩ dL_law_699 (Nat.le_of_ble_eq_true rfl) rfl rfl (fun v699 H1 hp699 hs699 => ?_)
  obtain ⟨hv8, hA1, hFx⟩ := hp699
  subst hv8
  have hMd1 := hMd.fx hFx (by omega)
  have hsz1 : x + 151 ≤ H1.size := by have := hFx.1; omega
  obtain ⟨⟨q1, q2, q3, q4, q5, hO9⟩, hNw, hPa, hSv, hPd, ⟨W, hOr⟩, hLn, ⟨T, hTk⟩⟩ := id hMd1
  refine g_aload_n (pc := 702) (pl := 2) X dL_law_702 rfl ?_
  refine gVi (pc := 703) (n2 := 151 + 121 * c + 0 + 0) (k2 := 17884 + 4272 * c + 0 + 0) X cs_L_law_95 (c_X9_wipe (zl K) D base (x + 140) m n q1 q2 q3 q4 q5 f (by omega)) rfl hO9 (by omega) ⟨hO9, hNw⟩ rfl ⟨(by show 151 + 121 * c + 0 + 0 ≤ 600000; omega), (by show 17884 + 4272 * c + 0 + 0 ≤ 7302250; omega)⟩ dL_law_703 (Nat.le_of_ble_eq_true rfl) rfl rfl (fun v703 H2 hp703 hs703 => ?_)
  obtain ⟨hv9, hO2, hNw2, hf2⟩ := hp703
  subst hv9
  refine g_icmp_same (pc := 706) X 796 dL_law_706 (by decide) ?_
  have hFr : Fr (Iv (x + 140) (x + 151)) 0 H1 H2 := hf2.wide (by omega) (by omega)
  have hMd2 : MdAt D (x + 140) m 0 f st hb ss P H2 := ⟨⟨_, _, _, _, _, hO2⟩, hNw2, hPa.fr hf2 (by omega), hSv.fr hf2 (by omega), hPd.fr hf2 (by omega), ⟨W, hOr.fr hf2 (by omega)⟩, hLn.fr hf2 (by omega), ⟨T, hTk.fr hf2 (by omega)⟩⟩
  have hW2 : Wld D x m 0 H2 := ⟨sa, sl, st, ss, f, P, hb, hA1.far hFr, hMd2, hI, hIs, hIv, hHb, (fun i i0 i1 => by omega), by have := hFr.1; omega⟩
  refine G.widen (n' := 151 + 121 * c + 121) (k' := 17884 + 4272 * c + 4272) (by omega) (by omega) ?_
  exact kk _ _ _ hW2

theorem cs_L_law_96 : zCV RL wsL_law 96 8 yX8_fault wsX8_fault cX8_fault 1 (some .int) rm_L_law rm_X8_fault 0 := ⟨_, _, gL_law_X8_fault, rfl, ⟨by decide +kernel, by decide +kernel, by decide +kernel⟩, ⟨Nat.le_of_ble_eq_true rfl, Nat.le_of_ble_eq_true rfl⟩, rfl, rfl⟩
theorem cs_L_law_99 : zCV RL wsL_law 99 9 yX9_fault wsX9_fault cX9_fault 1 (some .int) rm_L_law rm_X9_fault 0 := ⟨_, _, gL_law_X9_fault, rfl, ⟨by decide +kernel, by decide +kernel, by decide +kernel⟩, ⟨Nat.le_of_ble_eq_true rfl, Nat.le_of_ble_eq_true rfl⟩, rfl, rfl⟩
set_option maxRecDepth 100000 in
set_option maxHeartbeats 4000000 in
theorem lc_fault {K : zC} {D : zD} {base : Nat} (X : GX K cL_law RL wsL_law D base rm_L_law 4) {b L : Nat} {xs : Nat → Int32} (hX : va_X b L xs (zs K) (zs K).heap) (hbl : b < (zs K).heap.size) (hbb : b < base) (hL : L ≤ 2048) {x : Nat} (hq : base ≤ x) {i : Int} (hi : 0 ≤ i ∧ i + 4 ≤ (L : Int)) {c : Nat} (hc : 4 * (c : Int) = i) {m n : Int} {H : Heap} (hW : Wld D x m n H)
    (kk : ∀ (m2 n2 : Int) (H2 : Heap), Wld D x m2 n2 H2 → G K (151 + 121 * c + 121) (17884 + 4272 * c + 4272) H2 796 [(0, .ref b), (1, .ref x), (2, .ref (x + 140)), (3, .int (J i))] []) : G K (151 + 121 * c) (17884 + 4272 * c) H 711 [(0, .ref b), (1, .ref x), (2, .ref (x + 140)), (3, .int (J i))] [] := by
  obtain ⟨sa, sl, st, ss, f, P, hb, hA, hMd, hI, hIs, hIv, hHb, hPr, hsz⟩ := hW
  obtain ⟨hO8, -, -, -, hPd8, -, hHs8, -⟩ := id hA
  have hm6 : 0 ≤ m ∧ m ≤ 6 := hHs8.2.2.2.2
  have hpd := hPd8.bd
  clear hPd8 hHs8
  refine g_aload_n (pc := 711) (pl := 1) X dL_law_711 rfl ?_
  refine gVi (pc := 712) (n2 := 151 + 121 * c + 0) (k2 := 17884 + 4272 * c + 0) X cs_L_law_96 (c_X8_fault (zl K) D base x (x + 151) m sa sl st ss f n P hq (by omega) hI hPr) rfl hO8 (by omega) hA rfl ⟨(by show 151 + 121 * c + 0 ≤ 600000; omega), (by show 17884 + 4272 * c + 0 ≤ 7302250; omega)⟩ dL_law_712 (Nat.le_of_ble_eq_true rfl) rfl rfl (fun v712 H1 hp712 hs712 => ?_)
  obtain ⟨rfl, hA1, hFx⟩ := hp712
  have hMd1 := hMd.fx hFx (by omega)
  have hsz1 : x + 151 ≤ H1.size := by have := hFx.1; omega
  obtain ⟨⟨q1, q2, q3, q4, q5, hO9⟩, hNw, hPa, hSv, hPd, ⟨W, hOr⟩, hLn, ⟨T, hTk⟩⟩ := id hMd1
  refine g_aload_n (pc := 715) (pl := 2) X dL_law_715 rfl ?_
  refine gVi (pc := 716) (n2 := 151 + 121 * c + 0 + 0) (k2 := 17884 + 4272 * c + 0 + 0) X cs_L_law_99 (c_X9_fault (zl K) D base (x + 140) m n q1 q2 q3 q4 q5 f P W (by omega) (by omega) hPr) rfl hO9 (by omega) ⟨hO9, hNw, hPd, hOr⟩ rfl ⟨(by show 151 + 121 * c + 0 + 0 ≤ 600000; omega), (by show 17884 + 4272 * c + 0 + 0 ≤ 7302250; omega)⟩ dL_law_716 (Nat.le_of_ble_eq_true rfl) rfl rfl (fun v716 H2 hp716 hs716 => ?_)
  obtain ⟨hv9, hE9, hNw2, hPd2, hOr2, hu2⟩ := hp716
  subst hv9
  refine g_icmp_same (pc := 719) X 796 dL_law_719 (by decide) ?_
  have hFr : Fr (Iv (x + 140) (x + 151)) 0 H1 H2 := hu2.unI (by omega)
  obtain ⟨Hm, g1, g2⟩ := hu2.part
  have hMd2 : MdAt D (x + 140) m n f st hb ss P H2 := ⟨hE9, hNw2, (hPa.fr g1 (by omega)).fr g2 (by omega), (hSv.fr g1 (by omega)).fr g2 (by omega), hPd2, hOr2, (hLn.fr g1 (by omega)).fr g2 (by omega), ⟨T, (hTk.fr g1 (by omega)).fr g2 (by omega)⟩⟩
  have hW2 : Wld D x m n H2 := ⟨sa, sl, st, ss, f, P, hb, hA1.far hFr, hMd2, hI, hIs, hIv, hHb, hPr, by have := hFr.1; omega⟩
  refine G.widen (n' := 151 + 121 * c + 121) (k' := 17884 + 4272 * c + 4272) (by omega) (by omega) ?_
  exact kk _ _ _ hW2

theorem cs_L_law_100 : zCV RL wsL_law 100 8 yX8_carryOut wsX8_carryOut cX8_carryOut 2 (some .int) rm_L_law rm_X8_carryOut 0 := ⟨_, _, gL_law_X8_carryOut, rfl, ⟨by decide +kernel, by decide +kernel, by decide +kernel⟩, ⟨Nat.le_of_ble_eq_true rfl, Nat.le_of_ble_eq_true rfl⟩, rfl, rfl⟩
theorem cs_L_law_103 : zCV RL wsL_law 103 9 yX9_carryOut wsX9_carryOut cX9_carryOut 2 (some .int) rm_L_law rm_X9_carryOut 0 := ⟨_, _, gL_law_X9_carryOut, rfl, ⟨by decide +kernel, by decide +kernel, by decide +kernel⟩, ⟨Nat.le_of_ble_eq_true rfl, Nat.le_of_ble_eq_true rfl⟩, rfl, rfl⟩
set_option maxRecDepth 100000 in
set_option maxHeartbeats 4000000 in
theorem lc_carryOut {K : zC} {D : zD} {base : Nat} (X : GX K cL_law RL wsL_law D base rm_L_law 4) {b L : Nat} {xs : Nat → Int32} (hX : va_X b L xs (zs K) (zs K).heap) (hbl : b < (zs K).heap.size) (hbb : b < base) (hL : L ≤ 2048) {x : Nat} (hq : base ≤ x) {i : Int} (hi : 0 ≤ i ∧ i + 4 ≤ (L : Int)) {c : Nat} (hc : 4 * (c : Int) = i) {m n : Int} {H : Heap} (hW : Wld D x m n H)
    (kk : ∀ (m2 n2 : Int) (H2 : Heap), Wld D x m2 n2 H2 → G K (151 + 121 * c + 121) (17884 + 4272 * c + 4272) H2 796 [(0, .ref b), (1, .ref x), (2, .ref (x + 140)), (3, .int (J i))] []) : G K (151 + 121 * c) (17884 + 4272 * c) H 724 [(0, .ref b), (1, .ref x), (2, .ref (x + 140)), (3, .int (J i))] [] := by
  obtain ⟨sa, sl, st, ss, f, P, hb, hA, hMd, hI, hIs, hIv, hHb, hPr, hsz⟩ := hW
  obtain ⟨hO8, -, -, -, hPd8, -, hHs8, -⟩ := id hA
  have hm6 : 0 ≤ m ∧ m ≤ 6 := hHs8.2.2.2.2
  have hpd := hPd8.bd
  clear hPd8 hHs8
  refine g_aload_n (pc := 724) (pl := 1) X dL_law_724 rfl ?_
  refine gVi (pc := 725) (n2 := 151 + 121 * c + 121) (k2 := 17884 + 4272 * c + 4272) X cs_L_law_100 (c_X8_carryOut (zl K) D base x (x + 151) m sa sl st ss f n P hq (by omega) hI hPr) rfl hO8 (by omega) ⟨hA, hsz⟩ rfl ⟨(by show 151 + 121 * c + 121 ≤ 600000; omega), (by show 17884 + 4272 * c + 4272 ≤ 7302250; omega)⟩ dL_law_725 (Nat.le_of_ble_eq_true rfl) rfl rfl (fun v725 H1 hp725 hs725 => ?_)
  obtain ⟨rfl, sa2, hA1, hFx⟩ := hp725
  have hMd1 := hMd.fx hFx (by omega)
  have hsz1 : x + 151 ≤ H1.size := by have := hFx.1; omega
  obtain ⟨⟨q1, q2, q3, q4, q5, hO9⟩, hNw, hPa, hSv, hPd, ⟨W, hOr⟩, hLn, ⟨T, hTk⟩⟩ := id hMd1
  refine g_aload_n (pc := 728) (pl := 2) X dL_law_728 rfl ?_
  refine gVi (pc := 729) (n2 := 151 + 121 * c + 121 + 0) (k2 := 17884 + 4272 * c + 4272 + 0) X cs_L_law_103 (c_X9_carryOut (zl K) D base (x + 140) m n q1 q2 q3 q4 q5 f st P W T (by omega) hI hm6 (by omega) hPr) rfl hO9 (by omega) ⟨hO9, hNw, hPa, hPd, hOr, hLn, hTk⟩ rfl ⟨(by show 151 + 121 * c + 121 + 0 ≤ 600000; omega), (by show 17884 + 4272 * c + 4272 + 0 ≤ 7302250; omega)⟩ dL_law_729 (Nat.le_of_ble_eq_true rfl) rfl rfl (fun v729 H2 hp729 hs729 => ?_)
  obtain ⟨hv9, ⟨f2, hE2, hNw2⟩, hE9, hPa2, hPd2, hOr2, hLn2, hTk2, hu2⟩ := hp729
  subst hv9
  refine g_icmp_same (pc := 732) X 796 dL_law_732 (by decide) ?_
  have hFr : Fr (Iv (x + 140) (x + 151)) 0 H1 H2 := hu2.unI (by omega)
  obtain ⟨Hm, g1, g2⟩ := hu2.part
  have hMd2 : MdAt D (x + 140) (hsN m (cyR n P f)) (cyN n P) f2 (hsS m (cyR n P f) st f) hb ss P H2 := ⟨hE9, hNw2, hPa2, (hSv.fr g1 (by omega)).fr g2 (by omega), hPd2, hOr2, hLn2, hTk2⟩
  have hPr2 : ∀ i : Int, 0 ≤ i → i < cyN n P → 33 ≤ P i ∧ P i ≤ 126 := fun i i0 i1 => by unfold cyN at i1; split at i1; exact hPr i i0 i1; omega
  have hW2 := Wld.ed (r := cyR n P f) hm6 hI hIs hIv hHb hPr2 hsz1 hA1 (cy_inv hI) hE2 hMd2 hFr
  refine G.widen (n' := 151 + 121 * c + 121) (k' := 17884 + 4272 * c + 4272) (by omega) (by omega) ?_
  exact kk _ _ _ hW2

theorem cs_L_law_104 : zCV RL wsL_law 104 8 yX8_undo wsX8_undo cX8_undo 1 (some .int) rm_L_law rm_X8_undo 0 := ⟨_, _, gL_law_X8_undo, rfl, ⟨by decide +kernel, by decide +kernel, by decide +kernel⟩, ⟨Nat.le_of_ble_eq_true rfl, Nat.le_of_ble_eq_true rfl⟩, rfl, rfl⟩
theorem cs_L_law_107 : zCV RL wsL_law 107 9 yX9_undo wsX9_undo cX9_undo 1 (some .int) rm_L_law rm_X9_undo 0 := ⟨_, _, gL_law_X9_undo, rfl, ⟨by decide +kernel, by decide +kernel, by decide +kernel⟩, ⟨Nat.le_of_ble_eq_true rfl, Nat.le_of_ble_eq_true rfl⟩, rfl, rfl⟩
set_option maxRecDepth 100000 in
set_option maxHeartbeats 4000000 in
theorem lc_undo {K : zC} {D : zD} {base : Nat} (X : GX K cL_law RL wsL_law D base rm_L_law 4) {b L : Nat} {xs : Nat → Int32} (hX : va_X b L xs (zs K) (zs K).heap) (hbl : b < (zs K).heap.size) (hbb : b < base) (hL : L ≤ 2048) {x : Nat} (hq : base ≤ x) {i : Int} (hi : 0 ≤ i ∧ i + 4 ≤ (L : Int)) {c : Nat} (hc : 4 * (c : Int) = i) {m n : Int} {H : Heap} (hW : Wld D x m n H)
    (kk : ∀ (m2 n2 : Int) (H2 : Heap), Wld D x m2 n2 H2 → G K (151 + 121 * c + 121) (17884 + 4272 * c + 4272) H2 796 [(0, .ref b), (1, .ref x), (2, .ref (x + 140)), (3, .int (J i))] []) : G K (151 + 121 * c) (17884 + 4272 * c) H 737 [(0, .ref b), (1, .ref x), (2, .ref (x + 140)), (3, .int (J i))] [] := by
  obtain ⟨sa, sl, st, ss, f, P, hb, hA, hMd, hI, hIs, hIv, hHb, hPr, hsz⟩ := hW
  obtain ⟨hO8, -, -, -, hPd8, -, hHs8, -⟩ := id hA
  have hm6 : 0 ≤ m ∧ m ≤ 6 := hHs8.2.2.2.2
  have hpd := hPd8.bd
  clear hPd8 hHs8
  refine g_aload_n (pc := 737) (pl := 1) X dL_law_737 rfl ?_
  refine gVi (pc := 738) (n2 := 151 + 121 * c + 0) (k2 := 17884 + 4272 * c + 0) X cs_L_law_104 (c_X8_undo (zl K) D base x (x + 151) m sa sl st ss f n P hq (by omega) hI ) rfl hO8 (by omega) hA rfl ⟨(by show 151 + 121 * c + 0 ≤ 600000; omega), (by show 17884 + 4272 * c + 0 ≤ 7302250; omega)⟩ dL_law_738 (Nat.le_of_ble_eq_true rfl) rfl rfl (fun v738 H1 hp738 hs738 => ?_)
  obtain ⟨rfl, hA1, hFx⟩ := hp738
  have hMd1 := hMd.fx hFx (by omega)
  have hsz1 : x + 151 ≤ H1.size := by have := hFx.1; omega
  obtain ⟨⟨q1, q2, q3, q4, q5, hO9⟩, hNw, hPa, hSv, hPd, ⟨W, hOr⟩, hLn, ⟨T, hTk⟩⟩ := id hMd1
  refine g_aload_n (pc := 741) (pl := 2) X dL_law_741 rfl ?_
  refine gVi (pc := 742) (n2 := 151 + 121 * c + 0 + 0) (k2 := 17884 + 4272 * c + 0 + 0) X cs_L_law_107 (c_X9_undo (zl K) D base (x + 140) m n q1 q2 q3 q4 q5 f st (by omega) hm6) rfl hO9 (by omega) ⟨hO9, hNw, hPa⟩ rfl ⟨(by show 151 + 121 * c + 0 + 0 ≤ 600000; omega), (by show 17884 + 4272 * c + 0 + 0 ≤ 7302250; omega)⟩ dL_law_742 (Nat.le_of_ble_eq_true rfl) rfl rfl (fun v742 H2 hp742 hs742 => ?_)
  obtain ⟨hv9, hO2, ⟨f2, hNw2, hf2a, hf2b⟩, hPa2, hf2⟩ := hp742
  subst hv9
  refine g_icmp_same (pc := 745) X 796 dL_law_745 (by decide) ?_
  have hFr : Fr (Iv (x + 140) (x + 151)) 0 H1 H2 := hf2.wide (by omega) (by omega)
  have hMd2 : MdAt D (x + 140) (if 0 < m then m - 1 else m) n f2 st hb ss P H2 := ⟨⟨_, _, _, _, _, hO2⟩, hNw2, hPa2, hSv.fr hf2 (by omega), hPd.fr hf2 (by omega), ⟨W, hOr.fr hf2 (by omega)⟩, hLn.fr hf2 (by omega), ⟨T, hTk.fr hf2 (by omega)⟩⟩
  have hW2 : Wld D x (if 0 < m then m - 1 else m) n H2 := by
    have hA2 := hA1.far hFr
    have hs2 : x + 151 ≤ H2.size := by have := hFr.1; omega
    by_cases z : 0 < m
    · rw [if_pos z] at hA2 hMd2 ⊢
      have hI2 := hIs (m - 1) (by omega) (by omega)
      have hE2 : MEq (st (m - 1)) f2 := mq_of hI2 (fun j j0 j1 => hf2a z j j0 j1)
      rw [if_pos z] at hA2
      exact ⟨sa, sl, st, ss, f2, P, hb, hA2.cg hE2, hMd2, hI2.meq hE2, fun i i0 i1 => hIs i i0 (by omega), hIv, hHb, hPr, hs2⟩
    · rw [if_neg z] at hA2 hMd2 ⊢
      rw [if_neg z] at hA2
      rw [hf2b z] at hMd2
      exact ⟨sa, sl, st, ss, f, P, hb, hA2, hMd2, hI, hIs, hIv, hHb, hPr, hs2⟩
  refine G.widen (n' := 151 + 121 * c + 121) (k' := 17884 + 4272 * c + 4272) (by omega) (by omega) ?_
  exact kk _ _ _ hW2

theorem cs_L_law_108 : zCV RL wsL_law 108 8 yX8_save wsX8_save cX8_save 3 (some .int) rm_L_law rm_X8_save 1 := ⟨_, _, gL_law_X8_save, rfl, ⟨by decide +kernel, by decide +kernel, by decide +kernel⟩, ⟨Nat.le_of_ble_eq_true rfl, Nat.le_of_ble_eq_true rfl⟩, rfl, rfl⟩
theorem cs_L_law_111 : zCV RL wsL_law 111 9 yX9_save wsX9_save cX9_save 2 (some .int) rm_L_law rm_X9_save 1 := ⟨_, _, gL_law_X9_save, rfl, ⟨by decide +kernel, by decide +kernel, by decide +kernel⟩, ⟨Nat.le_of_ble_eq_true rfl, Nat.le_of_ble_eq_true rfl⟩, rfl, rfl⟩
set_option maxRecDepth 100000 in
set_option maxHeartbeats 4000000 in
theorem lc_save {K : zC} {D : zD} {base : Nat} (X : GX K cL_law RL wsL_law D base rm_L_law 4) {b L : Nat} {xs : Nat → Int32} (hX : va_X b L xs (zs K) (zs K).heap) (hbl : b < (zs K).heap.size) (hbb : b < base) (hL : L ≤ 2048) {x : Nat} (hq : base ≤ x) {i : Int} (hi : 0 ≤ i ∧ i + 4 ≤ (L : Int)) {c : Nat} (hc : 4 * (c : Int) = i) {m n : Int} {H : Heap} (hW : Wld D x m n H)
    (kk : ∀ (m2 n2 : Int) (H2 : Heap), Wld D x m2 n2 H2 → G K (151 + 121 * c + 121) (17884 + 4272 * c + 4272) H2 796 [(0, .ref b), (1, .ref x), (2, .ref (x + 140)), (3, .int (J i))] []) : G K (151 + 121 * c) (17884 + 4272 * c) H 750 [(0, .ref b), (1, .ref x), (2, .ref (x + 140)), (3, .int (J i))] [] := by
  obtain ⟨sa, sl, st, ss, f, P, hb, hA, hMd, hI, hIs, hIv, hHb, hPr, hsz⟩ := hW
  obtain ⟨hO8, -, -, -, hPd8, -, hHs8, -⟩ := id hA
  have hm6 : 0 ≤ m ∧ m ≤ 6 := hHs8.2.2.2.2
  have hpd := hPd8.bd
  clear hPd8 hHs8
  obtain ⟨a1, ha1⟩ : ∃ z, sx xs (i + 1) = z := ⟨_, rfl⟩
  have ra1 : rg a1 := by rw [← ha1]; exact sx_rg xs (i + 1)
  refine g_aload_n (pc := 750) (pl := 1) X dL_law_750 rfl ?_
  refine g_aload_n (pc := 751) (pl := 0) X dL_law_751 rfl ?_
  refine g_iload_n (pc := 752) (pl := 3) X dL_law_752 rfl ?_
  refine g_iconst (pc := 753) X dL_law_753 ?_
  refine g_iadd (pc := 754) X dL_law_754 ?_
  refine g_sld (pc := 755) (i := i + 1) X hX hbl hbb (by omega) dL_law_755 ?_
  rw [ha1]
  refine gVi (pc := 756) (n2 := 151 + 121 * c + 121) (k2 := 17884 + 4272 * c + 4272) X cs_L_law_108 (c_X8_save (zl K) D base x (x + 151) m sa sl st ss f n P a1 hq (by omega) hI ra1) rfl hO8 (by omega) ⟨hA, hsz⟩ rfl ⟨(by show 151 + 121 * c + 121 ≤ 600000; omega), (by show 17884 + 4272 * c + 4272 ≤ 7302250; omega)⟩ dL_law_756 (Nat.le_of_ble_eq_true rfl) rfl rfl (fun v756 H1 hp756 hs756 => ?_)
  obtain ⟨rfl, sl2, hs1, hs2, hs3, hA1, hFx⟩ := hp756
  have hMd1 := hMd.fx hFx (by omega)
  have hsz1 : x + 151 ≤ H1.size := by have := hFx.1; omega
  obtain ⟨⟨q1, q2, q3, q4, q5, hO9⟩, hNw, hPa, hSv, hPd, ⟨W, hOr⟩, hLn, ⟨T, hTk⟩⟩ := id hMd1
  refine g_aload_n (pc := 759) (pl := 2) X dL_law_759 rfl ?_
  refine g_aload_n (pc := 760) (pl := 0) X dL_law_760 rfl ?_
  refine g_iload_n (pc := 761) (pl := 3) X dL_law_761 rfl ?_
  refine g_iconst (pc := 762) X dL_law_762 ?_
  refine g_iadd (pc := 763) X dL_law_763 ?_
  refine g_sld (pc := 764) (i := i + 1) X hX hbl hbb (by omega) dL_law_764 ?_
  rw [ha1]
  refine gVi (pc := 765) (n2 := 151 + 121 * c + 121 + 0) (k2 := 17884 + 4272 * c + 4272 + 0) X cs_L_law_111 (c_X9_save (zl K) D base (x + 140) m n q1 q2 q3 q4 q5 f hb ss a1 (by omega) ra1) rfl hO9 (by omega) ⟨hO9, hNw, hSv⟩ rfl ⟨(by show 151 + 121 * c + 121 + 0 ≤ 600000; omega), (by show 17884 + 4272 * c + 4272 + 0 ≤ 7302250; omega)⟩ dL_law_765 (Nat.le_of_ble_eq_true rfl) rfl rfl (fun v765 H2 hp765 hs765 => ?_)
  obtain ⟨hv9, hO2, hNw2, hSv2, hf2⟩ := hp765
  subst hv9
  refine g_icmp_same (pc := 768) X 796 dL_law_768 (by decide) ?_
  have hFr : Fr (Iv (x + 140) (x + 151)) 0 H1 H2 := hf2.wide (by omega) (by omega)
  have hMd2 : MdAt D (x + 140) m n f st (if 0 ≤ a1 ∧ a1 < 2 then up hb a1 1 else hb) (if 0 ≤ a1 ∧ a1 < 2 then up2 ss a1 f else ss) P H2 := ⟨⟨_, _, _, _, _, hO2⟩, hNw2, hPa.fr hf2 (by omega), hSv2, hPd.fr hf2 (by omega), ⟨W, hOr.fr hf2 (by omega)⟩, hLn.fr hf2 (by omega), ⟨T, hTk.fr hf2 (by omega)⟩⟩
  have hW2 : Wld D x m n H2 := by
    have hA2 := hA1.far hFr
    have hsx : x + 151 ≤ H2.size := by have := hFr.1; omega
    by_cases z : 0 ≤ a1 ∧ a1 < 2
    · rw [if_pos z, if_pos z] at hMd2
      rw [if_pos z] at hA2
      refine ⟨sa, sl2, st, up2 ss a1 f, f, P, up hb a1 1, hA2, hMd2, hI, hIs, fun j j0 j1 hj => ?_, fun j j0 j1 => ?_, hPr, hsx⟩
      · by_cases y : j = a1
        · rw [show up2 ss a1 f j = f from if_pos y]; exact hI
        · rw [show up hb a1 1 j = hb j from if_neg y] at hj; rw [show up2 ss a1 f j = ss j from if_neg y]; exact hIv j j0 j1 hj
      · by_cases y : j = a1
        · rw [show up hb a1 1 j = 1 from if_pos y, y]; exact ⟨fun _ => hs2 z, fun _ => rfl⟩
        · rw [show up hb a1 1 j = hb j from if_neg y, hs1 j y]; exact hHb j j0 j1
    · rw [if_neg z, if_neg z] at hMd2
      rw [if_neg z, hs3 z] at hA2
      exact ⟨sa, sl, st, ss, f, P, hb, hA2, hMd2, hI, hIs, hIv, hHb, hPr, hsx⟩
  refine G.widen (n' := 151 + 121 * c + 121) (k' := 17884 + 4272 * c + 4272) (by omega) (by omega) ?_
  exact kk _ _ _ hW2

theorem cs_L_law_112 : zCV RL wsL_law 112 8 yX8_restore wsX8_restore cX8_restore 3 (some .int) rm_L_law rm_X8_restore 1 := ⟨_, _, gL_law_X8_restore, rfl, ⟨by decide +kernel, by decide +kernel, by decide +kernel⟩, ⟨Nat.le_of_ble_eq_true rfl, Nat.le_of_ble_eq_true rfl⟩, rfl, rfl⟩
theorem cs_L_law_115 : zCV RL wsL_law 115 9 yX9_restore wsX9_restore cX9_restore 2 (some .int) rm_L_law rm_X9_restore 1 := ⟨_, _, gL_law_X9_restore, rfl, ⟨by decide +kernel, by decide +kernel, by decide +kernel⟩, ⟨Nat.le_of_ble_eq_true rfl, Nat.le_of_ble_eq_true rfl⟩, rfl, rfl⟩
set_option maxRecDepth 100000 in
set_option maxHeartbeats 4000000 in
theorem lc_restore {K : zC} {D : zD} {base : Nat} (X : GX K cL_law RL wsL_law D base rm_L_law 4) {b L : Nat} {xs : Nat → Int32} (hX : va_X b L xs (zs K) (zs K).heap) (hbl : b < (zs K).heap.size) (hbb : b < base) (hL : L ≤ 2048) {x : Nat} (hq : base ≤ x) {i : Int} (hi : 0 ≤ i ∧ i + 4 ≤ (L : Int)) {c : Nat} (hc : 4 * (c : Int) = i) {m n : Int} {H : Heap} (hW : Wld D x m n H)
    (kk : ∀ (m2 n2 : Int) (H2 : Heap), Wld D x m2 n2 H2 → G K (151 + 121 * c + 121) (17884 + 4272 * c + 4272) H2 796 [(0, .ref b), (1, .ref x), (2, .ref (x + 140)), (3, .int (J i))] []) : G K (151 + 121 * c) (17884 + 4272 * c) H 773 [(0, .ref b), (1, .ref x), (2, .ref (x + 140)), (3, .int (J i))] [] := by
  obtain ⟨sa, sl, st, ss, f, P, hb, hA, hMd, hI, hIs, hIv, hHb, hPr, hsz⟩ := hW
  obtain ⟨hO8, -, -, -, hPd8, -, hHs8, -⟩ := id hA
  have hm6 : 0 ≤ m ∧ m ≤ 6 := hHs8.2.2.2.2
  have hpd := hPd8.bd
  clear hPd8 hHs8
  obtain ⟨a1, ha1⟩ : ∃ z, sx xs (i + 1) = z := ⟨_, rfl⟩
  have ra1 : rg a1 := by rw [← ha1]; exact sx_rg xs (i + 1)
  refine g_aload_n (pc := 773) (pl := 1) X dL_law_773 rfl ?_
  refine g_aload_n (pc := 774) (pl := 0) X dL_law_774 rfl ?_
  refine g_iload_n (pc := 775) (pl := 3) X dL_law_775 rfl ?_
  refine g_iconst (pc := 776) X dL_law_776 ?_
  refine g_iadd (pc := 777) X dL_law_777 ?_
  refine g_sld (pc := 778) (i := i + 1) X hX hbl hbb (by omega) dL_law_778 ?_
  rw [ha1]
  refine gVi (pc := 779) (n2 := 151 + 121 * c + 121) (k2 := 17884 + 4272 * c + 4272) X cs_L_law_112 (c_X8_restore (zl K) D base x (x + 151) m sa sl st ss f n P a1 hq (by omega) hI ra1) rfl hO8 (by omega) ⟨hA, hsz⟩ rfl ⟨(by show 151 + 121 * c + 121 ≤ 600000; omega), (by show 17884 + 4272 * c + 4272 ≤ 7302250; omega)⟩ dL_law_779 (Nat.le_of_ble_eq_true rfl) rfl rfl (fun v779 H1 hp779 hs779 => ?_)
  obtain ⟨rfl, sa2, hA1, hFx⟩ := hp779
  have hMd1 := hMd.fx hFx (by omega)
  have hsz1 : x + 151 ≤ H1.size := by have := hFx.1; omega
  obtain ⟨⟨q1, q2, q3, q4, q5, hO9⟩, hNw, hPa, hSv, hPd, ⟨W, hOr⟩, hLn, ⟨T, hTk⟩⟩ := id hMd1
  refine g_aload_n (pc := 782) (pl := 2) X dL_law_782 rfl ?_
  refine g_aload_n (pc := 783) (pl := 0) X dL_law_783 rfl ?_
  refine g_iload_n (pc := 784) (pl := 3) X dL_law_784 rfl ?_
  refine g_iconst (pc := 785) X dL_law_785 ?_
  refine g_iadd (pc := 786) X dL_law_786 ?_
  refine g_sld (pc := 787) (i := i + 1) X hX hbl hbb (by omega) dL_law_787 ?_
  rw [ha1]
  have hb01 := hSv.2.1
  have hrs := rs_eq (ss := ss) (e := a1) hb01 hHb
  refine gVi (pc := 788) (n2 := 151 + 121 * c + 121 + 0) (k2 := 17884 + 4272 * c + 4272 + 0) X cs_L_law_115 (c_X9_restore (zl K) D base (x + 140) m n q1 q2 q3 q4 q5 f st hb ss a1 (by omega) hI hm6 ra1 (fun i i0 i1 hi => (hIv i i0 i1 hi).nums.1)) rfl hO9 (by omega) ⟨hO9, hNw, hPa, hSv⟩ rfl ⟨(by show 151 + 121 * c + 121 + 0 ≤ 600000; omega), (by show 17884 + 4272 * c + 4272 + 0 ≤ 7302250; omega)⟩ dL_law_788 (Nat.le_of_ble_eq_true rfl) rfl rfl (fun v788 H2 hp788 hs788 => ?_)
  obtain ⟨hv9, hO2, ⟨f2, hNw2, hf2a, hf2b⟩, hPa2, hSv2, hf2⟩ := hp788
  rw [hrs] at hv9 hO2 hPa2
  subst hv9
  refine g_icmp_same (pc := 791) X 796 dL_law_791 (by decide) ?_
  have hFr : Fr (Iv (x + 140) (x + 151)) 0 H1 H2 := hf2.wide (by omega) (by omega)
  have hMd2 : MdAt D (x + 140) (hsN m (rsR sl ss a1)) n f2 (hsS m (rsR sl ss a1) st f) hb ss P H2 := ⟨⟨_, _, _, _, _, hO2⟩, hNw2, hPa2, hSv2, hPd.fr hf2 (by omega), ⟨W, hOr.fr hf2 (by omega)⟩, hLn.fr hf2 (by omega), ⟨T, hTk.fr hf2 (by omega)⟩⟩
  have hGE : PInv (rsG sl ss f a1) ∧ MEq (rsG sl ss f a1) f2 := by
    by_cases z : 0 ≤ a1 ∧ a1 < 2
    · by_cases y : hb a1 = 1
      · have hn : ¬ sl a1 = none := (hHb a1 z.1 z.2).mp y
        have e : rsG sl ss f a1 = ss a1 := (if_neg (fun w => w z)).trans (if_neg hn)
        have hI2 := hIv a1 z.1 z.2 y
        rw [e]; exact ⟨hI2, mq_of hI2 (fun j j0 j1 => hf2a ⟨z.1, z.2, y⟩ j j0 j1)⟩
      · have hn : sl a1 = none := Decidable.byContradiction (fun w => y ((hHb a1 z.1 z.2).mpr w))
        have e : rsG sl ss f a1 = f := (if_neg (fun w => w z)).trans (if_pos hn)
        rw [e, hf2b (fun w => y w.2.2)]; exact ⟨hI, MEq.refl f⟩
    · have e : rsG sl ss f a1 = f := if_pos z
      rw [e, hf2b (fun w => z ⟨w.1, w.2.1⟩)]; exact ⟨hI, MEq.refl f⟩
  have hW2 := Wld.ed (r := rsR sl ss a1) hm6 hI hIs hIv hHb hPr hsz1 hA1 hGE.1 hGE.2 hMd2 hFr
  refine G.widen (n' := 151 + 121 * c + 121) (k' := 17884 + 4272 * c + 4272) (by omega) (by omega) ?_
  exact kk _ _ _ hW2

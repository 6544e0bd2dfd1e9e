theorem cs_L_law_48 : zCV RL wsL_law 48 8 yX8_letter wsX8_letter cX8_letter 2 (some .int) rm_L_law rm_X8_letter 1 := ⟨_, _, gL_law_X8_letter, rfl, ⟨by decide +kernel, by decide +kernel, by decide +kernel⟩, ⟨Nat.le_of_ble_eq_true rfl, Nat.le_of_ble_eq_true rfl⟩, rfl, rfl⟩
theorem cs_L_law_51 : zCV RL wsL_law 51 9 yX9_letter wsX9_letter cX9_letter 2 (some .int) rm_L_law rm_X9_letter 1 := ⟨_, _, gL_law_X9_letter, rfl, ⟨by decide +kernel, by decide +kernel, by decide +kernel⟩, ⟨Nat.le_of_ble_eq_true rfl, Nat.le_of_ble_eq_true rfl⟩, rfl, rfl⟩
set_option maxRecDepth 100000 in
set_option maxHeartbeats 4000000 in
theorem lc_letter {K : zC} {D : zD} {base : Nat} (X : GX K cL_law RL wsL_law D base rm_L_law 4) {b L : Nat} {xs : Nat → Int32} (hX : va_X b L xs (zs K) (zs K).heap) (hbl : b < (zs K).heap.size) (hbb : b < base) (hL : L ≤ 2048) {x : Nat} (hq : base ≤ x) {i : Int} (hi : 0 ≤ i ∧ i + 4 ≤ (L : Int)) {c : Nat} (hc : 4 * (c : Int) = i) {m n : Int} {H : Heap} (hW : Wld D x m n H)
    (kk : ∀ (m2 n2 : Int) (H2 : Heap), Wld D x m2 n2 H2 → G K (151 + 121 * c + 121) (17884 + 4272 * c + 4272) H2 796 [(0, .ref b), (1, .ref x), (2, .ref (x + 140)), (3, .int (J i))] []) : G K (151 + 121 * c) (17884 + 4272 * c) H 388 [(0, .ref b), (1, .ref x), (2, .ref (x + 140)), (3, .int (J i))] [] := by
  obtain ⟨sa, sl, st, ss, f, P, hb, hA, hMd, hI, hIs, hIv, hHb, hPr, hsz⟩ := hW
  obtain ⟨hO8, -, -, -, hPd8, -, hHs8, -⟩ := id hA
  have hm6 : 0 ≤ m ∧ m ≤ 6 := hHs8.2.2.2.2
  have hpd := hPd8.bd
  clear hPd8 hHs8
  obtain ⟨a1, ha1⟩ : ∃ z, sx xs (i + 1) = z := ⟨_, rfl⟩
  have ra1 : rg a1 := by rw [← ha1]; exact sx_rg xs (i + 1)
  refine g_aload_n (pc := 388) (pl := 1) X dL_law_388 rfl ?_
  refine g_aload_n (pc := 389) (pl := 0) X dL_law_389 rfl ?_
  refine g_iload_n (pc := 390) (pl := 3) X dL_law_390 rfl ?_
  refine g_iconst (pc := 391) X dL_law_391 ?_
  refine g_iadd (pc := 392) X dL_law_392 ?_
  refine g_sld (pc := 393) (i := i + 1) X hX hbl hbb (by omega) dL_law_393 ?_
  rw [ha1]
  refine gVi (pc := 394) (n2 := 151 + 121 * c + 0) (k2 := 17884 + 4272 * c + 0) X cs_L_law_48 (c_X8_letter (zl K) D base x (x + 151) m sa sl st ss f n P a1 hq (by omega) hI ra1) rfl hO8 (by omega) hA rfl ⟨(by show 151 + 121 * c + 0 ≤ 600000; omega), (by show 17884 + 4272 * c + 0 ≤ 7302250; omega)⟩ dL_law_394 (Nat.le_of_ble_eq_true rfl) rfl rfl (fun v394 H1 hp394 hs394 => ?_)
  obtain ⟨rfl, hA1, hFx⟩ := hp394
  have hMd1 := hMd.fx hFx (by omega)
  have hsz1 : x + 151 ≤ H1.size := by have := hFx.1; omega
  obtain ⟨⟨q1, q2, q3, q4, q5, hO9⟩, hNw, hPa, hSv, hPd, ⟨W, hOr⟩, hLn, ⟨T, hTk⟩⟩ := id hMd1
  refine g_aload_n (pc := 397) (pl := 2) X dL_law_397 rfl ?_
  refine g_aload_n (pc := 398) (pl := 0) X dL_law_398 rfl ?_
  refine g_iload_n (pc := 399) (pl := 3) X dL_law_399 rfl ?_
  refine g_iconst (pc := 400) X dL_law_400 ?_
  refine g_iadd (pc := 401) X dL_law_401 ?_
  refine g_sld (pc := 402) (i := i + 1) X hX hbl hbb (by omega) dL_law_402 ?_
  rw [ha1]
  refine gVi (pc := 403) (n2 := 151 + 121 * c + 0 + 0) (k2 := 17884 + 4272 * c + 0 + 0) X cs_L_law_51 (c_X9_letter (zl K) D base (x + 140) m n q1 q2 q3 q4 q5 f a1 (by omega) hI ra1) rfl hO9 (by omega) ⟨hO9, hNw⟩ rfl ⟨(by show 151 + 121 * c + 0 + 0 ≤ 600000; omega), (by show 17884 + 4272 * c + 0 + 0 ≤ 7302250; omega)⟩ dL_law_403 (Nat.le_of_ble_eq_true rfl) rfl rfl (fun v403 H2 hp403 hs403 => ?_)
  obtain ⟨rfl, hv9⟩ := hp403
  subst hv9
  refine g_icmp_same (pc := 406) X 796 dL_law_406 (by decide) ?_
  have hW2 : Wld D x m n H1 := ⟨sa, sl, st, ss, f, P, hb, hA1, hMd1, hI, hIs, hIv, hHb, hPr, hsz1⟩
  refine G.widen (n' := 151 + 121 * c + 121) (k' := 17884 + 4272 * c + 4272) (by omega) (by omega) ?_
  exact kk _ _ _ hW2

theorem cs_L_law_52 : zCV RL wsL_law 52 8 yX8_of wsX8_of cX8_of 4 (some .int) rm_L_law rm_X8_of 2 := ⟨_, _, gL_law_X8_of, rfl, ⟨by decide +kernel, by decide +kernel, by decide +kernel⟩, ⟨Nat.le_of_ble_eq_true rfl, Nat.le_of_ble_eq_true rfl⟩, rfl, rfl⟩
theorem cs_L_law_55 : zCV RL wsL_law 55 9 yX9_of wsX9_of cX9_of 3 (some .int) rm_L_law rm_X9_of 2 := ⟨_, _, gL_law_X9_of, rfl, ⟨by decide +kernel, by decide +kernel, by decide +kernel⟩, ⟨Nat.le_of_ble_eq_true rfl, Nat.le_of_ble_eq_true rfl⟩, rfl, rfl⟩
set_option maxRecDepth 100000 in
set_option maxHeartbeats 4000000 in
theorem lc_of {K : zC} {D : zD} {base : Nat} (X : GX K cL_law RL wsL_law D base rm_L_law 4) {b L : Nat} {xs : Nat → Int32} (hX : va_X b L xs (zs K) (zs K).heap) (hbl : b < (zs K).heap.size) (hbb : b < base) (hL : L ≤ 2048) {x : Nat} (hq : base ≤ x) {i : Int} (hi : 0 ≤ i ∧ i + 4 ≤ (L : Int)) {c : Nat} (hc : 4 * (c : Int) = i) {m n : Int} {H : Heap} (hW : Wld D x m n H)
    (kk : ∀ (m2 n2 : Int) (H2 : Heap), Wld D x m2 n2 H2 → G K (151 + 121 * c + 121) (17884 + 4272 * c + 4272) H2 796 [(0, .ref b), (1, .ref x), (2, .ref (x + 140)), (3, .int (J i))] []) : G K (151 + 121 * c) (17884 + 4272 * c) H 411 [(0, .ref b), (1, .ref x), (2, .ref (x + 140)), (3, .int (J i))] [] := by
  obtain ⟨sa, sl, st, ss, f, P, hb, hA, hMd, hI, hIs, hIv, hHb, hPr, hsz⟩ := hW
  obtain ⟨hO8, -, -, -, hPd8, -, hHs8, -⟩ := id hA
  have hm6 : 0 ≤ m ∧ m ≤ 6 := hHs8.2.2.2.2
  have hpd := hPd8.bd
  clear hPd8 hHs8
  obtain ⟨a1, ha1⟩ : ∃ z, sx xs (i + 1) = z := ⟨_, rfl⟩
  have ra1 : rg a1 := by rw [← ha1]; exact sx_rg xs (i + 1)
  obtain ⟨a2, ha2⟩ : ∃ z, sx xs (i + 2) = z := ⟨_, rfl⟩
  have ra2 : rg a2 := by rw [← ha2]; exact sx_rg xs (i + 2)
  refine g_aload_n (pc := 411) (pl := 1) X dL_law_411 rfl ?_
  refine g_aload_n (pc := 412) (pl := 0) X dL_law_412 rfl ?_
  refine g_iload_n (pc := 413) (pl := 3) X dL_law_413 rfl ?_
  refine g_iconst (pc := 414) X dL_law_414 ?_
  refine g_iadd (pc := 415) X dL_law_415 ?_
  refine g_sld (pc := 416) (i := i + 1) X hX hbl hbb (by omega) dL_law_416 ?_
  rw [ha1]
  refine g_aload_n (pc := 417) (pl := 0) X dL_law_417 rfl ?_
  refine g_iload_n (pc := 418) (pl := 3) X dL_law_418 rfl ?_
  refine g_iconst (pc := 419) X dL_law_419 ?_
  refine g_iadd (pc := 420) X dL_law_420 ?_
  refine g_sld (pc := 421) (i := i + 2) X hX hbl hbb (by omega) dL_law_421 ?_
  rw [ha2]
  refine gVi (pc := 422) (n2 := 151 + 121 * c + 0) (k2 := 17884 + 4272 * c + 0) X cs_L_law_52 (c_X8_of (zl K) D base x (x + 151) m sa sl st ss f n P a1 a2 hq (by omega) hI ra1 ra2) rfl hO8 (by omega) hA rfl ⟨(by show 151 + 121 * c + 0 ≤ 600000; omega), (by show 17884 + 4272 * c + 0 ≤ 7302250; omega)⟩ dL_law_422 (Nat.le_of_ble_eq_true rfl) rfl rfl (fun v422 H1 hp422 hs422 => ?_)
  obtain ⟨rfl, hA1, hFx⟩ := hp422
  have hMd1 := hMd.fx hFx (by omega)
  have hsz1 : x + 151 ≤ H1.size := by have := hFx.1; omega
  obtain ⟨⟨q1, q2, q3, q4, q5, hO9⟩, hNw, hPa, hSv, hPd, ⟨W, hOr⟩, hLn, ⟨T, hTk⟩⟩ := id hMd1
  refine g_aload_n (pc := 425) (pl := 2) X dL_law_425 rfl ?_
  refine g_aload_n (pc := 426) (pl := 0) X dL_law_426 rfl ?_
  refine g_iload_n (pc := 427) (pl := 3) X dL_law_427 rfl ?_
  refine g_iconst (pc := 428) X dL_law_428 ?_
  refine g_iadd (pc := 429) X dL_law_429 ?_
  refine g_sld (pc := 430) (i := i + 1) X hX hbl hbb (by omega) dL_law_430 ?_
  rw [ha1]
  refine g_aload_n (pc := 431) (pl := 0) X dL_law_431 rfl ?_
  refine g_iload_n (pc := 432) (pl := 3) X dL_law_432 rfl ?_
  refine g_iconst (pc := 433) X dL_law_433 ?_
  refine g_iadd (pc := 434) X dL_law_434 ?_
  refine g_sld (pc := 435) (i := i + 2) X hX hbl hbb (by omega) dL_law_435 ?_
  rw [ha2]
  refine gVi (pc := 436) (n2 := 151 + 121 * c + 0 + 0) (k2 := 17884 + 4272 * c + 0 + 0) X cs_L_law_55 (c_X9_of (zl K) D base (x + 140) m n q1 q2 q3 q4 q5 f a1 a2 (by omega) hI ra1 ra2) rfl hO9 (by omega) ⟨hO9, hNw⟩ rfl ⟨(by show 151 + 121 * c + 0 + 0 ≤ 600000; omega), (by show 17884 + 4272 * c + 0 + 0 ≤ 7302250; omega)⟩ dL_law_436 (Nat.le_of_ble_eq_true rfl) rfl rfl (fun v436 H2 hp436 hs436 => ?_)
  obtain ⟨hv9, hE9, hNw2, hf2⟩ := hp436
  subst hv9
  refine g_icmp_same (pc := 439) X 796 dL_law_439 (by decide) ?_
  have hFr : Fr (Iv (x + 140) (x + 151)) 0 H1 H2 := hf2.wide (by omega) (by omega)
  have hMd2 : MdAt D (x + 140) m n f st hb ss P H2 := ⟨hE9, hNw2, hPa.fr hf2 (by omega), hSv.fr hf2 (by omega), hPd.fr hf2 (by omega), ⟨W, hOr.fr hf2 (by omega)⟩, hLn.fr hf2 (by omega), ⟨T, hTk.fr hf2 (by omega)⟩⟩
  have hW2 : Wld D x m n H2 := ⟨sa, sl, st, ss, f, P, hb, hA1.far hFr, hMd2, hI, hIs, hIv, hHb, hPr, by have := hFr.1; omega⟩
  refine G.widen (n' := 151 + 121 * c + 121) (k' := 17884 + 4272 * c + 4272) (by omega) (by omega) ?_
  exact kk _ _ _ hW2

theorem cs_L_law_56 : zCV RL wsL_law 56 8 yX8_word wsX8_word cX8_word 4 (some .int) rm_L_law rm_X8_word 2 := ⟨_, _, gL_law_X8_word, rfl, ⟨by decide +kernel, by decide +kernel, by decide +kernel⟩, ⟨Nat.le_of_ble_eq_true rfl, Nat.le_of_ble_eq_true rfl⟩, rfl, rfl⟩
theorem cs_L_law_59 : zCV RL wsL_law 59 9 yX9_word wsX9_word cX9_word 3 (some .int) rm_L_law rm_X9_word 2 := ⟨_, _, gL_law_X9_word, rfl, ⟨by decide +kernel, by decide +kernel, by decide +kernel⟩, ⟨Nat.le_of_ble_eq_true rfl, Nat.le_of_ble_eq_true rfl⟩, rfl, rfl⟩
set_option maxRecDepth 100000 in
set_option maxHeartbeats 4000000 in
theorem lc_word {K : zC} {D : zD} {base : Nat} (X : GX K cL_law RL wsL_law D base rm_L_law 4) {b L : Nat} {xs : Nat → Int32} (hX : va_X b L xs (zs K) (zs K).heap) (hbl : b < (zs K).heap.size) (hbb : b < base) (hL : L ≤ 2048) {x : Nat} (hq : base ≤ x) {i : Int} (hi : 0 ≤ i ∧ i + 4 ≤ (L : Int)) {c : Nat} (hc : 4 * (c : Int) = i) {m n : Int} {H : Heap} (hW : Wld D x m n H)
    (kk : ∀ (m2 n2 : Int) (H2 : Heap), Wld D x m2 n2 H2 → G K (151 + 121 * c + 121) (17884 + 4272 * c + 4272) H2 796 [(0, .ref b), (1, .ref x), (2, .ref (x + 140)), (3, .int (J i))] []) : G K (151 + 121 * c) (17884 + 4272 * c) H 444 [(0, .ref b), (1, .ref x), (2, .ref (x + 140)), (3, .int (J i))] [] := by
  obtain ⟨sa, sl, st, ss, f, P, hb, hA, hMd, hI, hIs, hIv, hHb, hPr, hsz⟩ := hW
  obtain ⟨hO8, -, -, -, hPd8, -, hHs8, -⟩ := id hA
  have hm6 : 0 ≤ m ∧ m ≤ 6 := hHs8.2.2.2.2
  have hpd := hPd8.bd
  clear hPd8 hHs8
  obtain ⟨a1, ha1⟩ : ∃ z, sx xs (i + 1) = z := ⟨_, rfl⟩
  have ra1 : rg a1 := by rw [← ha1]; exact sx_rg xs (i + 1)
  obtain ⟨a2, ha2⟩ : ∃ z, sx xs (i + 2) = z := ⟨_, rfl⟩
  have ra2 : rg a2 := by rw [← ha2]; exact sx_rg xs (i + 2)
  refine g_aload_n (pc := 444) (pl := 1) X dL_law_444 rfl ?_
  refine g_aload_n (pc := 445) (pl := 0) X dL_law_445 rfl ?_
  refine g_iload_n (pc := 446) (pl := 3) X dL_law_446 rfl ?_
  refine g_iconst (pc := 447) X dL_law_447 ?_
  refine g_iadd (pc := 448) X dL_law_448 ?_
  refine g_sld (pc := 449) (i := i + 1) X hX hbl hbb (by omega) dL_law_449 ?_
  rw [ha1]
  refine g_aload_n (pc := 450) (pl := 0) X dL_law_450 rfl ?_
  refine g_iload_n (pc := 451) (pl := 3) X dL_law_451 rfl ?_
  refine g_iconst (pc := 452) X dL_law_452 ?_
  refine g_iadd (pc := 453) X dL_law_453 ?_
  refine g_sld (pc := 454) (i := i + 2) X hX hbl hbb (by omega) dL_law_454 ?_
  rw [ha2]
  refine gVi (pc := 455) (n2 := 151 + 121 * c + 0) (k2 := 17884 + 4272 * c + 0) X cs_L_law_56 (c_X8_word (zl K) D base x (x + 151) m sa sl st ss f n P a1 a2 hq (by omega) hI ra1 ra2) rfl hO8 (by omega) hA rfl ⟨(by show 151 + 121 * c + 0 ≤ 600000; omega), (by show 17884 + 4272 * c + 0 ≤ 7302250; omega)⟩ dL_law_455 (Nat.le_of_ble_eq_true rfl) rfl rfl (fun v455 H1 hp455 hs455 => ?_)
  obtain ⟨rfl, hA1, hFx⟩ := hp455
  have hMd1 := hMd.fx hFx (by omega)
  have hsz1 : x + 151 ≤ H1.size := by have := hFx.1; omega
  obtain ⟨⟨q1, q2, q3, q4, q5, hO9⟩, hNw, hPa, hSv, hPd, ⟨W, hOr⟩, hLn, ⟨T, hTk⟩⟩ := id hMd1
  refine g_aload_n (pc := 458) (pl := 2) X dL_law_458 rfl ?_
  refine g_aload_n (pc := 459) (pl := 0) X dL_law_459 rfl ?_
  refine g_iload_n (pc := 460) (pl := 3) X dL_law_460 rfl ?_
  refine g_iconst (pc := 461) X dL_law_461 ?_
  refine g_iadd (pc := 462) X dL_law_462 ?_
  refine g_sld (pc := 463) (i := i + 1) X hX hbl hbb (by omega) dL_law_463 ?_
  rw [ha1]
  refine g_aload_n (pc := 464) (pl := 0) X dL_law_464 rfl ?_
  refine g_iload_n (pc := 465) (pl := 3) X dL_law_465 rfl ?_
  refine g_iconst (pc := 466) X dL_law_466 ?_
  refine g_iadd (pc := 467) X dL_law_467 ?_
  refine g_sld (pc := 468) (i := i + 2) X hX hbl hbb (by omega) dL_law_468 ?_
  rw [ha2]
  refine gVi (pc := 469) (n2 := 151 + 121 * c + 0 + 0) (k2 := 17884 + 4272 * c + 0 + 0) X cs_L_law_59 (c_X9_word (zl K) D base (x + 140) m n q1 q2 q3 q4 q5 f a1 a2 (by omega) hI ra1 ra2) rfl hO9 (by omega) ⟨hO9, hNw⟩ rfl ⟨(by show 151 + 121 * c + 0 + 0 ≤ 600000; omega), (by show 17884 + 4272 * c + 0 + 0 ≤ 7302250; omega)⟩ dL_law_469 (Nat.le_of_ble_eq_true rfl) rfl rfl (fun v469 H2 hp469 hs469 => ?_)
  obtain ⟨rfl, hv9⟩ := hp469
  subst hv9
  refine g_icmp_same (pc := 472) X 796 dL_law_472 (by decide) ?_
  have hW2 : Wld D x m n H1 := ⟨sa, sl, st, ss, f, P, hb, hA1, hMd1, hI, hIs, hIv, hHb, hPr, hsz1⟩
  refine G.widen (n' := 151 + 121 * c + 121) (k' := 17884 + 4272 * c + 4272) (by omega) (by omega) ?_
  exact kk _ _ _ hW2

theorem cs_L_law_60 : zCV RL wsL_law 60 8 yX8_at wsX8_at cX8_at 2 (some .int) rm_L_law rm_X8_at 1 := ⟨_, _, gL_law_X8_at, rfl, ⟨by decide +kernel, by decide +kernel, by decide +kernel⟩, ⟨Nat.le_of_ble_eq_true rfl, Nat.le_of_ble_eq_true rfl⟩, rfl, rfl⟩
theorem cs_L_law_63 : zCV RL wsL_law 63 9 yX9_at wsX9_at cX9_at 2 (some .int) rm_L_law rm_X9_at 1 := ⟨_, _, gL_law_X9_at, rfl, ⟨by decide +kernel, by decide +kernel, by decide +kernel⟩, ⟨Nat.le_of_ble_eq_true rfl, Nat.le_of_ble_eq_true rfl⟩, rfl, rfl⟩
set_option maxRecDepth 100000 in
set_option maxHeartbeats 4000000 in
theorem lc_at {K : zC} {D : zD} {base : Nat} (X : GX K cL_law RL wsL_law D base rm_L_law 4) {b L : Nat} {xs : Nat → Int32} (hX : va_X b L xs (zs K) (zs K).heap) (hbl : b < (zs K).heap.size) (hbb : b < base) (hL : L ≤ 2048) {x : Nat} (hq : base ≤ x) {i : Int} (hi : 0 ≤ i ∧ i + 4 ≤ (L : Int)) {c : Nat} (hc : 4 * (c : Int) = i) {m n : Int} {H : Heap} (hW : Wld D x m n H)
    (kk : ∀ (m2 n2 : Int) (H2 : Heap), Wld D x m2 n2 H2 → G K (151 + 121 * c + 121) (17884 + 4272 * c + 4272) H2 796 [(0, .ref b), (1, .ref x), (2, .ref (x + 140)), (3, .int (J i))] []) : G K (151 + 121 * c) (17884 + 4272 * c) H 477 [(0, .ref b), (1, .ref x), (2, .ref (x + 140)), (3, .int (J i))] [] := by
  obtain ⟨sa, sl, st, ss, f, P, hb, hA, hMd, hI, hIs, hIv, hHb, hPr, hsz⟩ := hW
  obtain ⟨hO8, -, -, -, hPd8, -, hHs8, -⟩ := id hA
  have hm6 : 0 ≤ m ∧ m ≤ 6 := hHs8.2.2.2.2
  have hpd := hPd8.bd
  clear hPd8 hHs8
  obtain ⟨a1, ha1⟩ : ∃ z, sx xs (i + 1) = z := ⟨_, rfl⟩
  have ra1 : rg a1 := by rw [← ha1]; exact sx_rg xs (i + 1)
  refine g_aload_n (pc := 477) (pl := 1) X dL_law_477 rfl ?_
  refine g_aload_n (pc := 478) (pl := 0) X dL_law_478 rfl ?_
  refine g_iload_n (pc := 479) (pl := 3) X dL_law_479 rfl ?_
  refine g_iconst (pc := 480) X dL_law_480 ?_
  refine g_iadd (pc := 481) X dL_law_481 ?_
  refine g_sld (pc := 482) (i := i + 1) X hX hbl hbb (by omega) dL_law_482 ?_
  rw [ha1]
  refine gVi (pc := 483) (n2 := 151 + 121 * c + 0) (k2 := 17884 + 4272 * c + 0) X cs_L_law_60 (c_X8_at (zl K) D base x (x + 151) m sa sl st ss f n P a1 hq (by omega) hI ra1) rfl hO8 (by omega) hA rfl ⟨(by show 151 + 121 * c + 0 ≤ 600000; omega), (by show 17884 + 4272 * c + 0 ≤ 7302250; omega)⟩ dL_law_483 (Nat.le_of_ble_eq_true rfl) rfl rfl (fun v483 H1 hp483 hs483 => ?_)
  obtain ⟨rfl, hA1, hFx⟩ := hp483
  have hMd1 := hMd.fx hFx (by omega)
  have hsz1 : x + 151 ≤ H1.size := by have := hFx.1; omega
  obtain ⟨⟨q1, q2, q3, q4, q5, hO9⟩, hNw, hPa, hSv, hPd, ⟨W, hOr⟩, hLn, ⟨T, hTk⟩⟩ := id hMd1
  refine g_aload_n (pc := 486) (pl := 2) X dL_law_486 rfl ?_
  refine g_aload_n (pc := 487) (pl := 0) X dL_law_487 rfl ?_
  refine g_iload_n (pc := 488) (pl := 3) X dL_law_488 rfl ?_
  refine g_iconst (pc := 489) X dL_law_489 ?_
  refine g_iadd (pc := 490) X dL_law_490 ?_
  refine g_sld (pc := 491) (i := i + 1) X hX hbl hbb (by omega) dL_law_491 ?_
  rw [ha1]
  refine gVi (pc := 492) (n2 := 151 + 121 * c + 0 + 0) (k2 := 17884 + 4272 * c + 0 + 0) X cs_L_law_63 (c_X9_at (zl K) D base (x + 140) m n q1 q2 q3 q4 q5 f a1 (by omega) hI ra1) rfl hO9 (by omega) ⟨hO9, hNw⟩ rfl ⟨(by show 151 + 121 * c + 0 + 0 ≤ 600000; omega), (by show 17884 + 4272 * c + 0 + 0 ≤ 7302250; omega)⟩ dL_law_492 (Nat.le_of_ble_eq_true rfl) rfl rfl (fun v492 H2 hp492 hs492 => ?_)
  obtain ⟨rfl, hv9⟩ := hp492
  subst hv9
  refine g_icmp_same (pc := 495) X 796 dL_law_495 (by decide) ?_
  have hW2 : Wld D x m n H1 := ⟨sa, sl, st, ss, f, P, hb, hA1, hMd1, hI, hIs, hIv, hHb, hPr, hsz1⟩
  refine G.widen (n' := 151 + 121 * c + 121) (k' := 17884 + 4272 * c + 4272) (by omega) (by omega) ?_
  exact kk _ _ _ hW2

theorem cs_L_law_64 : zCV RL wsL_law 64 8 yX8_printed wsX8_printed cX8_printed 3 (some .int) rm_L_law rm_X8_printed 2 := ⟨_, _, gL_law_X8_printed, rfl, ⟨by decide +kernel, by decide +kernel, by decide +kernel⟩, ⟨Nat.le_of_ble_eq_true rfl, Nat.le_of_ble_eq_true rfl⟩, rfl, rfl⟩
theorem cs_L_law_67 : zCV RL wsL_law 67 9 yX9_printed wsX9_printed cX9_printed 3 (some .int) rm_L_law rm_X9_printed 2 := ⟨_, _, gL_law_X9_printed, rfl, ⟨by decide +kernel, by decide +kernel, by decide +kernel⟩, ⟨Nat.le_of_ble_eq_true rfl, Nat.le_of_ble_eq_true rfl⟩, rfl, rfl⟩
set_option maxRecDepth 100000 in
set_option maxHeartbeats 4000000 in
theorem lc_printed {K : zC} {D : zD} {base : Nat} (X : GX K cL_law RL wsL_law D base rm_L_law 4) {b L : Nat} {xs : Nat → Int32} (hX : va_X b L xs (zs K) (zs K).heap) (hbl : b < (zs K).heap.size) (hbb : b < base) (hL : L ≤ 2048) {x : Nat} (hq : base ≤ x) {i : Int} (hi : 0 ≤ i ∧ i + 4 ≤ (L : Int)) {c : Nat} (hc : 4 * (c : Int) = i) {m n : Int} {H : Heap} (hW : Wld D x m n H)
    (kk : ∀ (m2 n2 : Int) (H2 : Heap), Wld D x m2 n2 H2 → G K (151 + 121 * c + 121) (17884 + 4272 * c + 4272) H2 796 [(0, .ref b), (1, .ref x), (2, .ref (x + 140)), (3, .int (J i))] []) : G K (151 + 121 * c) (17884 + 4272 * c) H 500 [(0, .ref b), (1, .ref x), (2, .ref (x + 140)), (3, .int (J i))] [] := by
  obtain ⟨sa, sl, st, ss, f, P, hb, hA, hMd, hI, hIs, hIv, hHb, hPr, hsz⟩ := hW
  obtain ⟨hO8, -, -, -, hPd8, -, hHs8, -⟩ := id hA
  have hm6 : 0 ≤ m ∧ m ≤ 6 := hHs8.2.2.2.2
  have hpd := hPd8.bd
  clear hPd8 hHs8
  obtain ⟨a1, ha1⟩ : ∃ z, sx xs (i + 1) = z := ⟨_, rfl⟩
  have ra1 : rg a1 := by rw [← ha1]; exact sx_rg xs (i + 1)
  obtain ⟨a2, ha2⟩ : ∃ z, sx xs (i + 2) = z := ⟨_, rfl⟩
  have ra2 : rg a2 := by rw [← ha2]; exact sx_rg xs (i + 2)
  refine g_aload_n (pc := 500) (pl := 1) X dL_law_500 rfl ?_
  refine g_aload_n (pc := 501) (pl := 0) X dL_law_501 rfl ?_
  refine g_iload_n (pc := 502) (pl := 3) X dL_law_502 rfl ?_
  refine g_iconst (pc := 503) X dL_law_503 ?_
  refine g_iadd (pc := 504) X dL_law_504 ?_
  refine g_sld (pc := 505) (i := i + 1) X hX hbl hbb (by omega) dL_law_505 ?_
  rw [ha1]
  refine g_aload_n (pc := 506) (pl := 0) X dL_law_506 rfl ?_
  refine g_iload_n (pc := 507) (pl := 3) X dL_law_507 rfl ?_
  refine g_iconst (pc := 508) X dL_law_508 ?_
  refine g_iadd (pc := 509) X dL_law_509 ?_
  refine g_sld (pc := 510) (i := i + 2) X hX hbl hbb (by omega) dL_law_510 ?_
  rw [ha2]
  refine gVi (pc := 511) (n2 := 151 + 121 * c + 0) (k2 := 17884 + 4272 * c + 0) X cs_L_law_64 (c_X8_printed (zl K) D base x (x + 151) m sa sl st ss f n P a1 a2 hq (by omega) hI ra1 ra2) rfl hO8 (by omega) hA rfl ⟨(by show 151 + 121 * c + 0 ≤ 600000; omega), (by show 17884 + 4272 * c + 0 ≤ 7302250; omega)⟩ dL_law_511 (Nat.le_of_ble_eq_true rfl) rfl rfl (fun v511 H1 hp511 hs511 => ?_)
  obtain ⟨rfl, hA1, hFx⟩ := hp511
  have hMd1 := hMd.fx hFx (by omega)
  have hsz1 : x + 151 ≤ H1.size := by have := hFx.1; omega
  obtain ⟨⟨q1, q2, q3, q4, q5, hO9⟩, hNw, hPa, hSv, hPd, ⟨W, hOr⟩, hLn, ⟨T, hTk⟩⟩ := id hMd1
  refine g_aload_n (pc := 514) (pl := 2) X dL_law_514 rfl ?_
  refine g_aload_n (pc := 515) (pl := 0) X dL_law_515 rfl ?_
  refine g_iload_n (pc := 516) (pl := 3) X dL_law_516 rfl ?_
  refine g_iconst (pc := 517) X dL_law_517 ?_
  refine g_iadd (pc := 518) X dL_law_518 ?_
  refine g_sld (pc := 519) (i := i + 1) X hX hbl hbb (by omega) dL_law_519 ?_
  rw [ha1]
  refine g_aload_n (pc := 520) (pl := 0) X dL_law_520 rfl ?_
  refine g_iload_n (pc := 521) (pl := 3) X dL_law_521 rfl ?_
  refine g_iconst (pc := 522) X dL_law_522 ?_
  refine g_iadd (pc := 523) X dL_law_523 ?_
  refine g_sld (pc := 524) (i := i + 2) X hX hbl hbb (by omega) dL_law_524 ?_
  rw [ha2]
  obtain ⟨⟨L9, hL9⟩, ⟨W9, hW9⟩, ⟨Q9, hQ9⟩⟩ := hLn
  refine gVi (pc := 525) (n2 := 151 + 121 * c + 0 + 0) (k2 := 17884 + 4272 * c + 0 + 0) X cs_L_law_67 (c_X9_printed (zl K) D base (x + 140) m n q1 q2 q3 q4 q5 f L9 W9 Q9 a1 a2 (by omega) hI ra1 ra2) rfl hO9 (by omega) ⟨hO9, hNw, hL9, hW9, hQ9⟩ rfl ⟨(by show 151 + 121 * c + 0 + 0 ≤ 600000; omega), (by show 17884 + 4272 * c + 0 + 0 ≤ 7302250; omega)⟩ dL_law_525 (Nat.le_of_ble_eq_true rfl) rfl rfl (fun v525 H2 hp525 hs525 => ?_)
  obtain ⟨hv9, ⟨hE9, hNw2, hL2, hV2, hQ2⟩, hu2⟩ := hp525
  subst hv9
  refine g_icmp_same (pc := 528) X 796 dL_law_528 (by decide) ?_
  have hFr : Fr (Iv (x + 140) (x + 151)) 0 H1 H2 := hu2.unI (by omega)
  obtain ⟨Hm, g1, g2⟩ := hu2.part
  have hMd2 : MdAt D (x + 140) m n f st hb ss P H2 := ⟨hE9, hNw2, (hPa.fr g1 (by omega)).fr g2 (by omega), (hSv.fr g1 (by omega)).fr g2 (by omega), (hPd.fr g1 (by omega)).fr g2 (by omega), ⟨W, (hOr.fr g1 (by omega)).fr g2 (by omega)⟩, ⟨hL2, hV2, hQ2⟩, ⟨T, (hTk.fr g1 (by omega)).fr g2 (by omega)⟩⟩
  have hW2 : Wld D x m n H2 := ⟨sa, sl, st, ss, f, P, hb, hA1.far hFr, hMd2, hI, hIs, hIv, hHb, hPr, by have := hFr.1; omega⟩
  refine G.widen (n' := 151 + 121 * c + 121) (k' := 17884 + 4272 * c + 4272) (by omega) (by omega) ?_
  exact kk _ _ _ hW2

theorem cs_L_law_68 : zCV RL wsL_law 68 8 yX8_count wsX8_count cX8_count 2 (some .int) rm_L_law rm_X8_count 1 := ⟨_, _, gL_law_X8_count, rfl, ⟨by decide +kernel, by decide +kernel, by decide +kernel⟩, ⟨Nat.le_of_ble_eq_true rfl, Nat.le_of_ble_eq_true rfl⟩, rfl, rfl⟩
theorem cs_L_law_71 : zCV RL wsL_law 71 9 yX9_count wsX9_count cX9_count 2 (some .int) rm_L_law rm_X9_count 1 := ⟨_, _, gL_law_X9_count, rfl, ⟨by decide +kernel, by decide +kernel, by decide +kernel⟩, ⟨Nat.le_of_ble_eq_true rfl, Nat.le_of_ble_eq_true rfl⟩, rfl, rfl⟩
set_option maxRecDepth 100000 in
set_option maxHeartbeats 4000000 in
theorem lc_count {K : zC} {D : zD} {base : Nat} (X : GX K cL_law RL wsL_law D base rm_L_law 4) {b L : Nat} {xs : Nat → Int32} (hX : va_X b L xs (zs K) (zs K).heap) (hbl : b < (zs K).heap.size) (hbb : b < base) (hL : L ≤ 2048) {x : Nat} (hq : base ≤ x) {i : Int} (hi : 0 ≤ i ∧ i + 4 ≤ (L : Int)) {c : Nat} (hc : 4 * (c : Int) = i) {m n : Int} {H : Heap} (hW : Wld D x m n H)
    (kk : ∀ (m2 n2 : Int) (H2 : Heap), Wld D x m2 n2 H2 → G K (151 + 121 * c + 121) (17884 + 4272 * c + 4272) H2 796 [(0, .ref b), (1, .ref x), (2, .ref (x + 140)), (3, .int (J i))] []) : G K (151 + 121 * c) (17884 + 4272 * c) H 533 [(0, .ref b), (1, .ref x), (2, .ref (x + 140)), (3, .int (J i))] [] := by
  obtain ⟨sa, sl, st, ss, f, P, hb, hA, hMd, hI, hIs, hIv, hHb, hPr, hsz⟩ := hW
  obtain ⟨hO8, -, -, -, hPd8, -, hHs8, -⟩ := id hA
  have hm6 : 0 ≤ m ∧ m ≤ 6 := hHs8.2.2.2.2
  have hpd := hPd8.bd
  clear hPd8 hHs8
  obtain ⟨a1, ha1⟩ : ∃ z, sx xs (i + 1) = z := ⟨_, rfl⟩
  have ra1 : rg a1 := by rw [← ha1]; exact sx_rg xs (i + 1)
  refine g_aload_n (pc := 533) (pl := 1) X dL_law_533 rfl ?_
  refine g_aload_n (pc := 534) (pl := 0) X dL_law_534 rfl ?_
  refine g_iload_n (pc := 535) (pl := 3) X dL_law_535 rfl ?_
  refine g_iconst (pc := 536) X dL_law_536 ?_
  refine g_iadd (pc := 537) X dL_law_537 ?_
  refine g_sld (pc := 538) (i := i + 1) X hX hbl hbb (by omega) dL_law_538 ?_
  rw [ha1]
  refine gVi (pc := 539) (n2 := 151 + 121 * c + 0) (k2 := 17884 + 4272 * c + 0) X cs_L_law_68 (c_X8_count (zl K) D base x (x + 151) m sa sl st ss f n P a1 hq (by omega) hI ra1) rfl hO8 (by omega) hA rfl ⟨(by show 151 + 121 * c + 0 ≤ 600000; omega), (by show 17884 + 4272 * c + 0 ≤ 7302250; omega)⟩ dL_law_539 (Nat.le_of_ble_eq_true rfl) rfl rfl (fun v539 H1 hp539 hs539 => ?_)
  obtain ⟨rfl, hA1, hFx⟩ := hp539
  have hMd1 := hMd.fx hFx (by omega)
  have hsz1 : x + 151 ≤ H1.size := by have := hFx.1; omega
  obtain ⟨⟨q1, q2, q3, q4, q5, hO9⟩, hNw, hPa, hSv, hPd, ⟨W, hOr⟩, hLn, ⟨T, hTk⟩⟩ := id hMd1
  refine g_aload_n (pc := 542) (pl := 2) X dL_law_542 rfl ?_
  refine g_aload_n (pc := 543) (pl := 0) X dL_law_543 rfl ?_
  refine g_iload_n (pc := 544) (pl := 3) X dL_law_544 rfl ?_
  refine g_iconst (pc := 545) X dL_law_545 ?_
  refine g_iadd (pc := 546) X dL_law_546 ?_
  refine g_sld (pc := 547) (i := i + 1) X hX hbl hbb (by omega) dL_law_547 ?_
  rw [ha1]
  obtain ⟨⟨L9, hL9⟩, ⟨W9, hW9⟩, ⟨Q9, hQ9⟩⟩ := hLn
  refine gVi (pc := 548) (n2 := 151 + 121 * c + 0 + 0) (k2 := 17884 + 4272 * c + 0 + 0) X cs_L_law_71 (c_X9_count (zl K) D base (x + 140) m n q1 q2 q3 q4 q5 f L9 W9 Q9 a1 (by omega) hI ra1) rfl hO9 (by omega) ⟨hO9, hNw, hL9, hW9, hQ9⟩ rfl ⟨(by show 151 + 121 * c + 0 + 0 ≤ 600000; omega), (by show 17884 + 4272 * c + 0 + 0 ≤ 7302250; omega)⟩ dL_law_548 (Nat.le_of_ble_eq_true rfl) rfl rfl (fun v548 H2 hp548 hs548 => ?_)
  obtain ⟨hv9, ⟨hE9, hNw2, hL2, hV2, hQ2⟩, hu2⟩ := hp548
  subst hv9
  refine g_icmp_same (pc := 551) X 796 dL_law_551 (by decide) ?_
  have hFr : Fr (Iv (x + 140) (x + 151)) 0 H1 H2 := hu2.unI (by omega)
  obtain ⟨Hm, g1, g2⟩ := hu2.part
  have hMd2 : MdAt D (x + 140) m n f st hb ss P H2 := ⟨hE9, hNw2, (hPa.fr g1 (by omega)).fr g2 (by omega), (hSv.fr g1 (by omega)).fr g2 (by omega), (hPd.fr g1 (by omega)).fr g2 (by omega), ⟨W, (hOr.fr g1 (by omega)).fr g2 (by omega)⟩, ⟨hL2, hV2, hQ2⟩, ⟨T, (hTk.fr g1 (by omega)).fr g2 (by omega)⟩⟩
  have hW2 : Wld D x m n H2 := ⟨sa, sl, st, ss, f, P, hb, hA1.far hFr, hMd2, hI, hIs, hIv, hHb, hPr, by have := hFr.1; omega⟩
  refine G.widen (n' := 151 + 121 * c + 121) (k' := 17884 + 4272 * c + 4272) (by omega) (by omega) ?_
  exact kk _ _ _ hW2

theorem cs_L_law_72 : zCV RL wsL_law 72 8 yX8_orphansIf wsX8_orphansIf cX8_orphansIf 3 (some .int) rm_L_law rm_X8_orphansIf 2 := ⟨_, _, gL_law_X8_orphansIf, rfl, ⟨by decide +kernel, by decide +kernel, by decide +kernel⟩, ⟨Nat.le_of_ble_eq_true rfl, Nat.le_of_ble_eq_true rfl⟩, rfl, rfl⟩
theorem cs_L_law_75 : zCV RL wsL_law 75 9 yX9_orphansIf wsX9_orphansIf cX9_orphansIf 7 (some .int) rm_L_law rm_X9_orphansIf 2 := ⟨_, _, gL_law_X9_orphansIf, rfl, ⟨by decide +kernel, by decide +kernel, by decide +kernel⟩, ⟨Nat.le_of_ble_eq_true rfl, Nat.le_of_ble_eq_true rfl⟩, rfl, rfl⟩
set_option maxRecDepth 100000 in
set_option maxHeartbeats 4000000 in
theorem lc_orphansIf {K : zC} {D : zD} {base : Nat} (X : GX K cL_law RL wsL_law D base rm_L_law 4) {b L : Nat} {xs : Nat → Int32} (hX : va_X b L xs (zs K) (zs K).heap) (hbl : b < (zs K).heap.size) (hbb : b < base) (hL : L ≤ 2048) {x : Nat} (hq : base ≤ x) {i : Int} (hi : 0 ≤ i ∧ i + 4 ≤ (L : Int)) {c : Nat} (hc : 4 * (c : Int) = i) {m n : Int} {H : Heap} (hW : Wld D x m n H)
    (kk : ∀ (m2 n2 : Int) (H2 : Heap), Wld D x m2 n2 H2 → G K (151 + 121 * c + 121) (17884 + 4272 * c + 4272) H2 796 [(0, .ref b), (1, .ref x), (2, .ref (x + 140)), (3, .int (J i))] []) : G K (151 + 121 * c) (17884 + 4272 * c) H 556 [(0, .ref b), (1, .ref x), (2, .ref (x + 140)), (3, .int (J i))] [] := by
  obtain ⟨sa, sl, st, ss, f, P, hb, hA, hMd, hI, hIs, hIv, hHb, hPr, hsz⟩ := hW
  obtain ⟨hO8, -, -, -, hPd8, -, hHs8, -⟩ := id hA
  have hm6 : 0 ≤ m ∧ m ≤ 6 := hHs8.2.2.2.2
  have hpd := hPd8.bd
  clear hPd8 hHs8
  obtain ⟨a1, ha1⟩ : ∃ z, sx xs (i + 1) = z := ⟨_, rfl⟩
  have ra1 : rg a1 := by rw [← ha1]; exact sx_rg xs (i + 1)
  obtain ⟨a2, ha2⟩ : ∃ z, sx xs (i + 2) = z := ⟨_, rfl⟩
  have ra2 : rg a2 := by rw [← ha2]; exact sx_rg xs (i + 2)
  refine g_aload_n (pc := 556) (pl := 1) X dL_law_556 rfl ?_
  refine g_aload_n (pc := 557) (pl := 0) X dL_law_557 rfl ?_
  refine g_iload_n (pc := 558) (pl := 3) X dL_law_558 rfl ?_
  refine g_iconst (pc := 559) X dL_law_559 ?_
  refine g_iadd (pc := 560) X dL_law_560 ?_
  refine g_sld (pc := 561) (i := i + 1) X hX hbl hbb (by omega) dL_law_561 ?_
  rw [ha1]
  refine g_aload_n (pc := 562) (pl := 0) X dL_law_562 rfl ?_
  refine g_iload_n (pc := 563) (pl := 3) X dL_law_563 rfl ?_
  refine g_iconst (pc := 564) X dL_law_564 ?_
  refine g_iadd (pc := 565) X dL_law_565 ?_
  refine g_sld (pc := 566) (i := i + 2) X hX hbl hbb (by omega) dL_law_566 ?_
  rw [ha2]
  refine gVi (pc := 567) (n2 := 151 + 121 * c + 0) (k2 := 17884 + 4272 * c + 0) X cs_L_law_72 (c_X8_orphansIf (zl K) D base x (x + 151) m sa sl st ss f n P a1 a2 hq (by omega) hI ra1 ra2) rfl hO8 (by omega) hA rfl ⟨(by show 151 + 121 * c + 0 ≤ 600000; omega), (by show 17884 + 4272 * c + 0 ≤ 7302250; omega)⟩ dL_law_567 (Nat.le_of_ble_eq_true rfl) rfl rfl (fun v567 H1 hp567 hs567 => ?_)
  obtain ⟨rfl, hA1, hFx⟩ := hp567
  have hMd1 := hMd.fx hFx (by omega)
  have hsz1 : x + 151 ≤ H1.size := by have := hFx.1; omega
  obtain ⟨⟨q1, q2, q3, q4, q5, hO9⟩, hNw, hPa, hSv, hPd, ⟨W, hOr⟩, hLn, ⟨T, hTk⟩⟩ := id hMd1
  refine g_aload_n (pc := 570) (pl := 2) X dL_law_570 rfl ?_
  refine g_aload_n (pc := 571) (pl := 0) X dL_law_571 rfl ?_
  refine g_iload_n (pc := 572) (pl := 3) X dL_law_572 rfl ?_
  refine g_iconst (pc := 573) X dL_law_573 ?_
  refine g_iadd (pc := 574) X dL_law_574 ?_
  refine g_sld (pc := 575) (i := i + 1) X hX hbl hbb (by omega) dL_law_575 ?_
  rw [ha1]
  refine g_aload_n (pc := 576) (pl := 0) X dL_law_576 rfl ?_
  refine g_iload_n (pc := 577) (pl := 3) X dL_law_577 rfl ?_
  refine g_iconst (pc := 578) X dL_law_578 ?_
  refine g_iadd (pc := 579) X dL_law_579 ?_
  refine g_sld (pc := 580) (i := i + 2) X hX hbl hbb (by omega) dL_law_580 ?_
  rw [ha2]
  refine gVi (pc := 581) (n2 := 151 + 121 * c + 0 + 0) (k2 := 17884 + 4272 * c + 0 + 0) X cs_L_law_75 (c_X9_orphansIf (zl K) D base (x + 140) m n q1 q2 q3 q4 q5 f a1 a2 (by omega) hI ra1 ra2) rfl hO9 (by omega) ⟨hO9, hNw⟩ rfl ⟨(by show 151 + 121 * c + 0 + 0 ≤ 600000; omega), (by show 17884 + 4272 * c + 0 + 0 ≤ 7302250; omega)⟩ dL_law_581 (Nat.le_of_ble_eq_true rfl) rfl rfl (fun v581 H2 hp581 hs581 => ?_)
  obtain ⟨rfl, hv9⟩ := hp581
  subst hv9
  refine g_icmp_same (pc := 584) X 796 dL_law_584 (by decide) ?_
  have hW2 : Wld D x m n H1 := ⟨sa, sl, st, ss, f, P, hb, hA1, hMd1, hI, hIs, hIv, hHb, hPr, hsz1⟩
  refine G.widen (n' := 151 + 121 * c + 121) (k' := 17884 + 4272 * c + 4272) (by omega) (by omega) ?_
  exact kk _ _ _ hW2

theorem cs_L_law_76 : zCV RL wsL_law 76 8 yX8_could wsX8_could cX8_could 4 (some .int) rm_L_law rm_X8_could 2 := ⟨_, _, gL_law_X8_could, rfl, ⟨by decide +kernel, by decide +kernel, by decide +kernel⟩, ⟨Nat.le_of_ble_eq_true rfl, Nat.le_of_ble_eq_true rfl⟩, rfl, rfl⟩
theorem cs_L_law_79 : zCV RL wsL_law 79 9 yX9_could wsX9_could cX9_could 3 (some .int) rm_L_law rm_X9_could 2 := ⟨_, _, gL_law_X9_could, rfl, ⟨by decide +kernel, by decide +kernel, by decide +kernel⟩, ⟨Nat.le_of_ble_eq_true rfl, Nat.le_of_ble_eq_true rfl⟩, rfl, rfl⟩
set_option maxRecDepth 100000 in
set_option maxHeartbeats 4000000 in
theorem lc_could {K : zC} {D : zD} {base : Nat} (X : GX K cL_law RL wsL_law D base rm_L_law 4) {b L : Nat} {xs : Nat → Int32} (hX : va_X b L xs (zs K) (zs K).heap) (hbl : b < (zs K).heap.size) (hbb : b < base) (hL : L ≤ 2048) {x : Nat} (hq : base ≤ x) {i : Int} (hi : 0 ≤ i ∧ i + 4 ≤ (L : Int)) {c : Nat} (hc : 4 * (c : Int) = i) {m n : Int} {H : Heap} (hW : Wld D x m n H)
    (kk : ∀ (m2 n2 : Int) (H2 : Heap), Wld D x m2 n2 H2 → G K (151 + 121 * c + 121) (17884 + 4272 * c + 4272) H2 796 [(0, .ref b), (1, .ref x), (2, .ref (x + 140)), (3, .int (J i))] []) : G K (151 + 121 * c) (17884 + 4272 * c) H 589 [(0, .ref b), (1, .ref x), (2, .ref (x + 140)), (3, .int (J i))] [] := by
  obtain ⟨sa, sl, st, ss, f, P, hb, hA, hMd, hI, hIs, hIv, hHb, hPr, hsz⟩ := hW
  obtain ⟨hO8, -, -, -, hPd8, -, hHs8, -⟩ := id hA
  have hm6 : 0 ≤ m ∧ m ≤ 6 := hHs8.2.2.2.2
  have hpd := hPd8.bd
  clear hPd8 hHs8
  obtain ⟨a1, ha1⟩ : ∃ z, sx xs (i + 1) = z := ⟨_, rfl⟩
  have ra1 : rg a1 := by rw [← ha1]; exact sx_rg xs (i + 1)
  obtain ⟨a2, ha2⟩ : ∃ z, sx xs (i + 2) = z := ⟨_, rfl⟩
  have ra2 : rg a2 := by rw [← ha2]; exact sx_rg xs (i + 2)
  refine g_aload_n (pc := 589) (pl := 1) X dL_law_589 rfl ?_
  refine g_aload_n (pc := 590) (pl := 0) X dL_law_590 rfl ?_
  refine g_iload_n (pc := 591) (pl := 3) X dL_law_591 rfl ?_
  refine g_iconst (pc := 592) X dL_law_592 ?_
  refine g_iadd (pc := 593) X dL_law_593 ?_
  refine g_sld (pc := 594) (i := i + 1) X hX hbl hbb (by omega) dL_law_594 ?_
  rw [ha1]
  refine g_aload_n (pc := 595) (pl := 0) X dL_law_595 rfl ?_
  refine g_iload_n (pc := 596) (pl := 3) X dL_law_596 rfl ?_
  refine g_iconst (pc := 597) X dL_law_597 ?_
  refine g_iadd (pc := 598) X dL_law_598 ?_
  refine g_sld (pc := 599) (i := i + 2) X hX hbl hbb (by omega) dL_law_599 ?_
  rw [ha2]
  refine gVi (pc := 600) (n2 := 151 + 121 * c + 0) (k2 := 17884 + 4272 * c + 0) X cs_L_law_76 (c_X8_could (zl K) D base x (x + 151) m sa sl st ss f n P a1 a2 hq (by omega) hI ra1 ra2) rfl hO8 (by omega) hA rfl ⟨(by show 151 + 121 * c + 0 ≤ 600000; omega), (by show 17884 + 4272 * c + 0 ≤ 7302250; omega)⟩ dL_law_600 (Nat.le_of_ble_eq_true rfl) rfl rfl (fun v600 H1 hp600 hs600 => ?_)
  obtain ⟨rfl, hA1, hFx⟩ := hp600
  have hMd1 := hMd.fx hFx (by omega)
  have hsz1 : x + 151 ≤ H1.size := by have := hFx.1; omega
  obtain ⟨⟨q1, q2, q3, q4, q5, hO9⟩, hNw, hPa, hSv, hPd, ⟨W, hOr⟩, hLn, ⟨T, hTk⟩⟩ := id hMd1
  refine g_aload_n (pc := 603) (pl := 2) X dL_law_603 rfl ?_
  refine g_aload_n (pc := 604) (pl := 0) X dL_law_604 rfl ?_
  refine g_iload_n (pc := 605) (pl := 3) X dL_law_605 rfl ?_
  refine g_iconst (pc := 606) X dL_law_606 ?_
  refine g_iadd (pc := 607) X dL_law_607 ?_
  refine g_sld (pc := 608) (i := i + 1) X hX hbl hbb (by omega) dL_law_608 ?_
  rw [ha1]
  refine g_aload_n (pc := 609) (pl := 0) X dL_law_609 rfl ?_
  refine g_iload_n (pc := 610) (pl := 3) X dL_law_610 rfl ?_
  refine g_iconst (pc := 611) X dL_law_611 ?_
  refine g_iadd (pc := 612) X dL_law_612 ?_
  refine g_sld (pc := 613) (i := i + 2) X hX hbl hbb (by omega) dL_law_613 ?_
  rw [ha2]
  refine gVi (pc := 614) (n2 := 151 + 121 * c + 0 + 0) (k2 := 17884 + 4272 * c + 0 + 0) X cs_L_law_79 (c_X9_could (zl K) D base (x + 140) m n q1 q2 q3 q4 q5 f a1 a2 (by omega) hI ra1 ra2) rfl hO9 (by omega) ⟨hO9, hNw⟩ rfl ⟨(by show 151 + 121 * c + 0 + 0 ≤ 600000; omega), (by show 17884 + 4272 * c + 0 + 0 ≤ 7302250; omega)⟩ dL_law_614 (Nat.le_of_ble_eq_true rfl) rfl rfl (fun v614 H2 hp614 hs614 => ?_)
  obtain ⟨rfl, hv9⟩ := hp614
  subst hv9
  refine g_icmp_same (pc := 617) X 796 dL_law_617 (by decide) ?_
  have hW2 : Wld D x m n H1 := ⟨sa, sl, st, ss, f, P, hb, hA1, hMd1, hI, hIs, hIv, hHb, hPr, hsz1⟩
  refine G.widen (n' := 151 + 121 * c + 121) (k' := 17884 + 4272 * c + 4272) (by omega) (by omega) ?_
  exact kk _ _ _ hW2

theorem cs_L_law_80 : zCV RL wsL_law 80 8 yX8_leastRoom wsX8_leastRoom cX8_leastRoom 3 (some .int) rm_L_law rm_X8_leastRoom 1 := ⟨_, _, gL_law_X8_leastRoom, rfl, ⟨by decide +kernel, by decide +kernel, by decide +kernel⟩, ⟨Nat.le_of_ble_eq_true rfl, Nat.le_of_ble_eq_true rfl⟩, rfl, rfl⟩
theorem cs_L_law_83 : zCV RL wsL_law 83 9 yX9_leastRoom wsX9_leastRoom cX9_leastRoom 3 (some .int) rm_L_law rm_X9_leastRoom 1 := ⟨_, _, gL_law_X9_leastRoom, rfl, ⟨by decide +kernel, by decide +kernel, by decide +kernel⟩, ⟨Nat.le_of_ble_eq_true rfl, Nat.le_of_ble_eq_true rfl⟩, rfl, rfl⟩
set_option maxRecDepth 100000 in
set_option maxHeartbeats 4000000 in
theorem lc_leastRoom {K : zC} {D : zD} {base : Nat} (X : GX K cL_law RL wsL_law D base rm_L_law 4) {b L : Nat} {xs : Nat → Int32} (hX : va_X b L xs (zs K) (zs K).heap) (hbl : b < (zs K).heap.size) (hbb : b < base) (hL : L ≤ 2048) {x : Nat} (hq : base ≤ x) {i : Int} (hi : 0 ≤ i ∧ i + 4 ≤ (L : Int)) {c : Nat} (hc : 4 * (c : Int) = i) {m n : Int} {H : Heap} (hW : Wld D x m n H)
    (kk : ∀ (m2 n2 : Int) (H2 : Heap), Wld D x m2 n2 H2 → G K (151 + 121 * c + 121) (17884 + 4272 * c + 4272) H2 796 [(0, .ref b), (1, .ref x), (2, .ref (x + 140)), (3, .int (J i))] []) : G K (151 + 121 * c) (17884 + 4272 * c) H 622 [(0, .ref b), (1, .ref x), (2, .ref (x + 140)), (3, .int (J i))] [] := by
  obtain ⟨sa, sl, st, ss, f, P, hb, hA, hMd, hI, hIs, hIv, hHb, hPr, hsz⟩ := hW
  obtain ⟨hO8, -, -, -, hPd8, -, hHs8, -⟩ := id hA
  have hm6 : 0 ≤ m ∧ m ≤ 6 := hHs8.2.2.2.2
  have hpd := hPd8.bd
  clear hPd8 hHs8
  obtain ⟨a1, ha1⟩ : ∃ z, sx xs (i + 1) = z := ⟨_, rfl⟩
  have ra1 : rg a1 := by rw [← ha1]; exact sx_rg xs (i + 1)
  refine g_aload_n (pc := 622) (pl := 1) X dL_law_622 rfl ?_
  refine g_aload_n (pc := 623) (pl := 0) X dL_law_623 rfl ?_
  refine g_iload_n (pc := 624) (pl := 3) X dL_law_624 rfl ?_
  refine g_iconst (pc := 625) X dL_law_625 ?_
  refine g_iadd (pc := 626) X dL_law_626 ?_
  refine g_sld (pc := 627) (i := i + 1) X hX hbl hbb (by omega) dL_law_627 ?_
  rw [ha1]
  refine gVi (pc := 628) (n2 := 151 + 121 * c + 0) (k2 := 17884 + 4272 * c + 0) X cs_L_law_80 (c_X8_leastRoom (zl K) D base x (x + 151) m sa sl st ss f n P a1 hq (by omega) hI ra1) rfl hO8 (by omega) hA rfl ⟨(by show 151 + 121 * c + 0 ≤ 600000; omega), (by show 17884 + 4272 * c + 0 ≤ 7302250; omega)⟩ dL_law_628 (Nat.le_of_ble_eq_true rfl) rfl rfl (fun v628 H1 hp628 hs628 => ?_)
  obtain ⟨rfl, hA1, hFx⟩ := hp628
  have hMd1 := hMd.fx hFx (by omega)
  have hsz1 : x + 151 ≤ H1.size := by have := hFx.1; omega
  obtain ⟨⟨q1, q2, q3, q4, q5, hO9⟩, hNw, hPa, hSv, hPd, ⟨W, hOr⟩, hLn, ⟨T, hTk⟩⟩ := id hMd1
  refine g_aload_n (pc := 631) (pl := 2) X dL_law_631 rfl ?_
  refine g_aload_n (pc := 632) (pl := 0) X dL_law_632 rfl ?_
  refine g_iload_n (pc := 633) (pl := 3) X dL_law_633 rfl ?_
  refine g_iconst (pc := 634) X dL_law_634 ?_
  refine g_iadd (pc := 635) X dL_law_635 ?_
  refine g_sld (pc := 636) (i := i + 1) X hX hbl hbb (by omega) dL_law_636 ?_
  rw [ha1]
  obtain ⟨⟨L9, hL9⟩, ⟨W9, hW9⟩, ⟨Q9, hQ9⟩⟩ := hLn
  refine gVi (pc := 637) (n2 := 151 + 121 * c + 0 + 0) (k2 := 17884 + 4272 * c + 0 + 0) X cs_L_law_83 (c_X9_leastRoom (zl K) D base (x + 140) m n q1 q2 q3 q4 q5 f L9 W9 Q9 a1 (by omega) hI ra1) rfl hO9 (by omega) ⟨hO9, hNw, hL9, hW9, hQ9⟩ rfl ⟨(by show 151 + 121 * c + 0 + 0 ≤ 600000; omega), (by show 17884 + 4272 * c + 0 + 0 ≤ 7302250; omega)⟩ dL_law_637 (Nat.le_of_ble_eq_true rfl) rfl rfl (fun v637 H2 hp637 hs637 => ?_)
  obtain ⟨hv9, ⟨hE9, hNw2, hL2, hV2, hQ2⟩, hu2⟩ := hp637
  subst hv9
  refine g_icmp_same (pc := 640) X 796 dL_law_640 (by decide) ?_
  have hFr : Fr (Iv (x + 140) (x + 151)) 0 H1 H2 := hu2.unI (by omega)
  obtain ⟨Hm, g1, g2⟩ := hu2.part
  have hMd2 : MdAt D (x + 140) m n f st hb ss P H2 := ⟨hE9, hNw2, (hPa.fr g1 (by omega)).fr g2 (by omega), (hSv.fr g1 (by omega)).fr g2 (by omega), (hPd.fr g1 (by omega)).fr g2 (by omega), ⟨W, (hOr.fr g1 (by omega)).fr g2 (by omega)⟩, ⟨hL2, hV2, hQ2⟩, ⟨T, (hTk.fr g1 (by omega)).fr g2 (by omega)⟩⟩
  have hW2 : Wld D x m n H2 := ⟨sa, sl, st, ss, f, P, hb, hA1.far hFr, hMd2, hI, hIs, hIv, hHb, hPr, by have := hFr.1; omega⟩
  refine G.widen (n' := 151 + 121 * c + 121) (k' := 17884 + 4272 * c + 4272) (by omega) (by omega) ?_
  exact kk _ _ _ hW2

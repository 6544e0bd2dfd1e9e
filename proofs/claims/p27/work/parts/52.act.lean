/-! the law's method that does something -/
theorem hs_two {Z : (Int → Int) → Prop} {m r : Int} {st : Int → Int → Int} {f : Int → Int} (hm : 0 ≤ m ∧ m ≤ 6) (hI : Z f) (h : ∀ i : Int, 0 ≤ i → i < m → Z (st i)) : ∀ i : Int, 0 ≤ i → i < hsN m r → Z (hsS m r st f i) := by
  intro i i0 i1
  unfold hsN at i1
  unfold hsS
  by_cases c : r < 0
  · rw [if_pos c] at i1 ⊢; exact h i i0 i1
  · rw [if_neg c] at i1 ⊢
    unfold hpN at i1
    unfold hpS
    by_cases c2 : m < 6
    · rw [if_pos c2] at i1 ⊢
      by_cases c3 : i = m
      · rw [if_pos c3]; exact hI
      · rw [if_neg c3]; exact h i i0 (by omega)
    · rw [if_neg c2] at i1 ⊢
      by_cases c3 : i = 5
      · rw [if_pos c3]; exact hI
      · rw [if_neg c3]; exact h (i + 1) (by omega) (by omega)
section
variable {D : zD} {x lo : Nat} {m : Int} {sa2 sl : Int → Option Nat} {st ss : Int → Int → Int} {g : Int → Int} {n : Int} {f : Int → Int} {H1 : Heap}
theorem act_ed {R : Int} {G : Int → Int} (hm : 0 ≤ m ∧ m ≤ 6) (hI : PInv g) (hQ : Qn g) (hIs : ∀ i : Int, 0 ≤ i → i < m → PInv (st i) ∧ Qn (st i)) (hG : PInv G ∧ Qn G) (he : R < 0 → G = g) (hr : -6 ≤ R ∧ R ≤ 100) (hA : AnAt D x lo (hsN m R) sa2 sl (hsS m R st g) ss G n f H1) (hls : lo ≤ H1.size) :
    ∃ (m2 : Int) (sa2 : Int → Option Nat) (st2 : Int → Int → Int) (g2 : Int → Int), AnAt D x lo m2 sa2 sl st2 ss g2 n f H1 ∧ (PInv g2 ∧ Qn g2) ∧ (∀ i : Int, 0 ≤ i → i < m2 → PInv (st2 i) ∧ Qn (st2 i)) ∧ (R < 0 → m2 = m ∧ g2 = g) ∧ (-6 ≤ R ∧ R ≤ 100) ∧ lo ≤ H1.size :=
  ⟨_, _, _, _, hA, hG, hs_two (Z := fun q => PInv q ∧ Qn q) hm ⟨hI, hQ⟩ hIs, fun z => ⟨if_pos z, he z⟩, hr, hls⟩
theorem act_un {sa : Int → Option Nat} (hm : 0 ≤ m ∧ m ≤ 6) (hI : PInv g) (hQ : Qn g) (hIs : ∀ i : Int, 0 ≤ i → i < m → PInv (st i) ∧ Qn (st i)) (hA : AnAt D x lo (if 0 < m then m - 1 else m) sa sl st ss (if 0 < m then st (m - 1) else g) n f H1) (hls : lo ≤ H1.size) :
    ∃ (m2 : Int) (sa2 : Int → Option Nat) (st2 : Int → Int → Int) (g2 : Int → Int), AnAt D x lo m2 sa2 sl st2 ss g2 n f H1 ∧ (PInv g2 ∧ Qn g2) ∧ (∀ i : Int, 0 ≤ i → i < m2 → PInv (st2 i) ∧ Qn (st2 i)) ∧ ((if 0 < m then m - 1 else -5) < 0 → m2 = m ∧ g2 = g) ∧ (-6 ≤ (if 0 < m then m - 1 else -5) ∧ (if 0 < m then m - 1 else -5) ≤ 100) ∧ lo ≤ H1.size := by
  by_cases c : 0 < m
  · rw [if_pos c, if_pos c] at hA
    rw [if_pos c]
    exact ⟨_, _, _, _, hA, hIs (m - 1) (by omega) (by omega), fun i i0 i1 => hIs i i0 (by omega), fun z => by omega, by omega, hls⟩
  · rw [if_neg c, if_neg c] at hA
    rw [if_neg c]
    exact ⟨_, _, _, _, hA, ⟨hI, hQ⟩, hIs, fun _ => ⟨rfl, rfl⟩, by omega, hls⟩
end
/-! an error changes nothing -/
section
variable {g : Int → Int}
theorem er_wr (hI : PInv g) (p c : Int) : wrR g p c < 0 → wrG g p c = g := fun z => if_pos z
theorem er_st (hI : PInv g) (s v : Int) : setR g s v < 0 → setG g s v = g := fun z => by
  unfold setR at z
  split at z
  · next c =>
    have hn := hI.nums
    exfalso
    rcases (show s = 0 ∨ s = 1 ∨ s = 2 by omega) with e | e | e <;> rw [e] at z
    · have : g 2 < 0 := z; omega
    · have : g 3 < 0 := z; omega
    · have : g 4 < 0 := z; omega
  · next c => exact if_neg c
theorem er_er (hI : PInv g) (a b : Int) : erR g a b < 0 → erG g a b = g := fun z => by
  unfold erR at z
  split at z
  · next c => exact if_pos c
  · have := popc_rg (ors g a b); omega
theorem er_mvs (hI : PInv g) (a b p : Int) : mvR g a b p < 0 → mvS g a b p = g := fun z => by
  unfold mvR at z
  split at z
  · next c => exact if_pos c
  · have h3 : 0 ≤ ptd (mvG g a b p) := (cnt_bd _ _).1
    omega
theorem er_nt (hI : PInv g) (a b : Int) : ntR g a b < 0 → ntG g a b = g := fun z => if_pos z
theorem er_rp (hI : PInv g) (k : Int) : rpR g k < 0 → rpG g k = g := fun z => if_pos z
theorem er_dp (hI : PInv g) (k : Int) : dpR g k < 0 → dpG g k = g := fun z => by
  unfold dpR at z
  split at z
  · next c => exact if_pos c
  · have := popc_rg (famS g k); omega
theorem er_rc (hI : PInv g) (k : Int) : rcR g k < 0 → rcG g k = g := fun z => if_pos z
end
abbrev rm_L_act : Room := { frames := 6, cells := 121, slots := 4272, locals := 171 }
theorem cs_L_act_37 : zCJ RL wsL_act 37 yL_cell wsL_cell cL_cell 2 (some .int) rm_L_act rm_L_cell 2 := ⟨_, gL_act_L_cell, rfl, ⟨by decide +kernel, by decide +kernel, by decide +kernel⟩, ⟨Nat.le_of_ble_eq_true rfl, Nat.le_of_ble_eq_true rfl⟩⟩
theorem cs_L_act_9 : zCV RL wsL_act 9 8 yX8_count wsX8_count cX8_count 2 (some .int) rm_L_act rm_X8_count 1 := ⟨_, _, gL_act_X8_count, rfl, ⟨by decide +kernel, by decide +kernel, by decide +kernel⟩, ⟨Nat.le_of_ble_eq_true rfl, Nat.le_of_ble_eq_true rfl⟩, rfl, rfl⟩
theorem cs_L_act_43 : zCJ RL wsL_act 43 yL_low wsL_low cL_low 2 (some .int) rm_L_act rm_L_low 2 := ⟨_, gL_act_L_low, rfl, ⟨by decide +kernel, by decide +kernel, by decide +kernel⟩, ⟨Nat.le_of_ble_eq_true rfl, Nat.le_of_ble_eq_true rfl⟩⟩
theorem cs_L_act_72 : zCV RL wsL_act 72 8 yX8_reclaim wsX8_reclaim cX8_reclaim 2 (some .int) rm_L_act rm_X8_reclaim 1 := ⟨_, _, gL_act_X8_reclaim, rfl, ⟨by decide +kernel, by decide +kernel, by decide +kernel⟩, ⟨Nat.le_of_ble_eq_true rfl, Nat.le_of_ble_eq_true rfl⟩, rfl, rfl⟩
theorem cs_L_act_46 : zCV RL wsL_act 46 8 yX8_write wsX8_write cX8_write 3 (some .int) rm_L_act rm_X8_write 2 := ⟨_, _, gL_act_X8_write, rfl, ⟨by decide +kernel, by decide +kernel, by decide +kernel⟩, ⟨Nat.le_of_ble_eq_true rfl, Nat.le_of_ble_eq_true rfl⟩, rfl, rfl⟩
theorem cs_L_act_49 : zCV RL wsL_act 49 8 yX8_erase wsX8_erase cX8_erase 3 (some .int) rm_L_act rm_X8_erase 2 := ⟨_, _, gL_act_X8_erase, rfl, ⟨by decide +kernel, by decide +kernel, by decide +kernel⟩, ⟨Nat.le_of_ble_eq_true rfl, Nat.le_of_ble_eq_true rfl⟩, rfl, rfl⟩
theorem cs_L_act_52 : zCV RL wsL_act 52 8 yX8_move wsX8_move cX8_move 4 (some .int) rm_L_act rm_X8_move 3 := ⟨_, _, gL_act_X8_move, rfl, ⟨by decide +kernel, by decide +kernel, by decide +kernel⟩, ⟨Nat.le_of_ble_eq_true rfl, Nat.le_of_ble_eq_true rfl⟩, rfl, rfl⟩
theorem cs_L_act_56 : zCV RL wsL_act 56 8 yX8_note wsX8_note cX8_note 3 (some .int) rm_L_act rm_X8_note 2 := ⟨_, _, gL_act_X8_note, rfl, ⟨by decide +kernel, by decide +kernel, by decide +kernel⟩, ⟨Nat.le_of_ble_eq_true rfl, Nat.le_of_ble_eq_true rfl⟩, rfl, rfl⟩
theorem cs_L_act_59 : zCV RL wsL_act 59 8 yX8_reply wsX8_reply cX8_reply 2 (some .int) rm_L_act rm_X8_reply 1 := ⟨_, _, gL_act_X8_reply, rfl, ⟨by decide +kernel, by decide +kernel, by decide +kernel⟩, ⟨Nat.le_of_ble_eq_true rfl, Nat.le_of_ble_eq_true rfl⟩, rfl, rfl⟩
theorem cs_L_act_62 : zCV RL wsL_act 62 8 yX8_drop wsX8_drop cX8_drop 2 (some .int) rm_L_act rm_X8_drop 1 := ⟨_, _, gL_act_X8_drop, rfl, ⟨by decide +kernel, by decide +kernel, by decide +kernel⟩, ⟨Nat.le_of_ble_eq_true rfl, Nat.le_of_ble_eq_true rfl⟩, rfl, rfl⟩
theorem cs_L_act_65 : zCV RL wsL_act 65 8 yX8_set wsX8_set cX8_set 3 (some .int) rm_L_act rm_X8_set 2 := ⟨_, _, gL_act_X8_set, rfl, ⟨by decide +kernel, by decide +kernel, by decide +kernel⟩, ⟨Nat.le_of_ble_eq_true rfl, Nat.le_of_ble_eq_true rfl⟩, rfl, rfl⟩
theorem cs_L_act_68 : zCV RL wsL_act 68 8 yX8_undo wsX8_undo cX8_undo 1 (some .int) rm_L_act rm_X8_undo 0 := ⟨_, _, gL_act_X8_undo, rfl, ⟨by decide +kernel, by decide +kernel, by decide +kernel⟩, ⟨Nat.le_of_ble_eq_true rfl, Nat.le_of_ble_eq_true rfl⟩, rfl, rfl⟩
set_option maxRecDepth 100000 in
set_option maxHeartbeats 4000000 in
theorem c_L_act (l : Launch) (D : zD) (base : Nat) (b L : Nat) (xs : Nat → Int32) (x lo : Nat) (m : Int) (sa sl : Int → Option Nat) (st ss : Int → Int → Int) (g : Int → Int) (n : Int) (f : Int → Int) (k : Int) (hbb : b < base) (hL : L ≤ 260) (hq : base ≤ x) (hlo : x + 140 ≤ lo) (hI : PInv g) (hQ : Qn g) (hIs : ∀ i : Int, 0 ≤ i → i < m → PInv (st i) ∧ Qn (st i)) (hk : 0 ≤ k ∧ k ≤ 240) : CtS b L xs l yL_act wsL_act rm_L_act D base [.ref x, .ref b, .int (J k)] (fun H => AnAt D x lo m sa sl st ss g n f H ∧ lo ≤ H.size) (PI (fun H v H1 => ∃ (m2 : Int) (sa2 : Int → Option Nat) (st2 : Int → Int → Int) (g2 : Int → Int), AnAt D x lo m2 sa2 sl st2 ss g2 n f H1 ∧ (PInv g2 ∧ Qn g2) ∧ (∀ i : Int, 0 ≤ i → i < m2 → PInv (st2 i) ∧ Qn (st2 i)) ∧ (v < 0 → m2 = m ∧ g2 = g) ∧ (-6 ≤ v ∧ v ≤ 100) ∧ lo ≤ H1.size)) := by
  refine CtS.of (own := RL) (cc := cL_act) (maxL := 8) (by decide +kernel) rfl (Nat.le_of_ble_eq_true rfl) rfl ?_
  intro K H X R hH hnm hX hbl hP
  show G K 0 0 H 0 [(0, .ref x), (1, .ref b), (2, .int (J k))] []
  obtain ⟨hA, hls⟩ := hP
  have hO := hA.1
  have hnum := hI.nums
  have hm6 : 0 ≤ m ∧ m ≤ 6 := hA.2.2.2.2.2.2.1.2.2.2.2
  have hbs : base ≤ H.size := by omega
  refine g_aload_n (pc := 0) (pl := 1) X dL_act_0 rfl ?_
  refine g_iload_n (pc := 1) (pl := 2) X dL_act_1 rfl ?_
  refine g_iconst (pc := 2) X dL_act_2 ?_
  refine g_iadd (pc := 3) X dL_act_3 ?_
  refine gJXi (pc := 4) (n2 := 0) (k2 := 0) X hX hbl hbb cs_L_act_37 (c_L_cell (zl K) D base b L xs hbb hL (k + 1) (by omega)) rfl hbs trivial rfl ⟨Nat.le_of_ble_eq_true rfl, Nat.le_of_ble_eq_true rfl⟩ dL_act_4 (Nat.le_of_ble_eq_true rfl) rfl rfl (fun v4 H1 hp4 hs4 => ?_)
  obtain ⟨rfl, hg4⟩ := hp4
  refine g_istore_n (pc := 7) (lv' := [(3, _), (0, _), (1, _), (2, _)]) X dL_act_7 (by decide) rfl ?_
  refine g_aload_n (pc := 8) (pl := 2) X dL_act_8 rfl ?_
  refine g_iload_n (pc := 9) (pl := 3) X dL_act_9 rfl ?_
  refine g_iconst (pc := 10) X dL_act_10 ?_
  refine g_iadd (pc := 11) X dL_act_11 ?_
  refine gJXi (pc := 12) (n2 := 0) (k2 := 0) X hX hbl hbb cs_L_act_37 (c_L_cell (zl K) D base b L xs hbb hL (k + 2) (by omega)) rfl hbs trivial rfl ⟨Nat.le_of_ble_eq_true rfl, Nat.le_of_ble_eq_true rfl⟩ dL_act_12 (Nat.le_of_ble_eq_true rfl) rfl rfl (fun v12 H1 hp12 hs12 => ?_)
  obtain ⟨rfl, hg12⟩ := hp12
  refine g_istore (pc := 15) (lv' := [(4, _), (3, _), (0, _), (1, _), (2, _)]) X dL_act_15 (by decide) rfl ?_
  refine g_aload_n (pc := 17) (pl := 3) X dL_act_17 rfl ?_
  refine g_iload_n (pc := 18) (pl := 4) X dL_act_18 rfl ?_
  refine g_iconst (pc := 19) X dL_act_19 ?_
  refine g_iadd (pc := 20) X dL_act_20 ?_
  refine gJXi (pc := 21) (n2 := 0) (k2 := 0) X hX hbl hbb cs_L_act_37 (c_L_cell (zl K) D base b L xs hbb hL (k + 3) (by omega)) rfl hbs trivial rfl ⟨Nat.le_of_ble_eq_true rfl, Nat.le_of_ble_eq_true rfl⟩ dL_act_21 (Nat.le_of_ble_eq_true rfl) rfl rfl (fun v21 H1 hp21 hs21 => ?_)
  obtain ⟨rfl, hg21⟩ := hp21
  refine g_istore (pc := 24) (lv' := [(5, _), (4, _), (3, _), (0, _), (1, _), (2, _)]) X dL_act_24 (by decide) rfl ?_
  refine g_aload_n (pc := 26) (pl := 3) X dL_act_26 rfl ?_
  refine g_iconst (pc := 27) X dL_act_27 ?_
  refine gVi (pc := 28) (n2 := 0) (k2 := 0) X cs_L_act_9 (c_X8_count (zl K) D base x lo m sa sl st ss g n f 0 hq hlo hI (by omega)) rfl hO (by omega) hA rfl ⟨Nat.le_of_ble_eq_true rfl, Nat.le_of_ble_eq_true rfl⟩ dL_act_28 (Nat.le_of_ble_eq_true rfl) rfl rfl (fun v28 H1 hp28 hs28 => ?_)
  obtain ⟨hv, hA1, hF1⟩ := hp28
  rw [ct_0] at hv
  subst hv
  replace hA := hA1
  replace hO := hA.1
  replace hls : lo ≤ H1.size := by have := hF1.1; omega
  replace hbs : base ≤ H1.size := by omega
  clear hA1 hF1 hs28
  refine g_istore (pc := 31) (lv' := [(6, _), (5, _), (4, _), (3, _), (0, _), (1, _), (2, _)]) X dL_act_31 (by decide) rfl ?_
  refine g_iload (pc := 33) (pl := 0) X dL_act_33 rfl ?_
  refine g_if_ne (pc := 35) X 42 dL_act_35 (by decide) (by omega) (fun c35 => ?_) (fun c35 => ?_)
  · skip
    refine g_iload_n (pc := 42) (pl := 3) X dL_act_42 rfl ?_
    refine g_iload (pc := 43) (pl := 0) X dL_act_43 rfl ?_
    refine gJi (pc := 45) (n2 := 0) (k2 := 0) X cs_L_act_43 (c_L_low (zl K) D base v4 (g 0) (by omega) (by omega)) rfl hbs trivial rfl ⟨Nat.le_of_ble_eq_true rfl, Nat.le_of_ble_eq_true rfl⟩ dL_act_45 (Nat.le_of_ble_eq_true rfl) rfl rfl (fun v45 H2 hp45 hs45 => ?_)
    obtain ⟨rfl, ⟨hg45, hl45⟩⟩ := hp45
    refine g_istore (pc := 48) (lv' := [(7, _), (6, _), (5, _), (4, _), (3, _), (0, _), (1, _), (2, _)]) X dL_act_48 (by decide) rfl ?_
    refine g_aload_n (pc := 50) (pl := 6) X dL_act_50 rfl ?_
    refine g_iload_n (pc := 51) (pl := 7) X dL_act_51 rfl ?_
    refine gJXi (pc := 52) (n2 := 0) (k2 := 0) X hX hbl hbb cs_L_act_37 (c_L_cell (zl K) D base b L xs hbb hL k (by omega)) rfl hbs trivial rfl ⟨Nat.le_of_ble_eq_true rfl, Nat.le_of_ble_eq_true rfl⟩ dL_act_52 (Nat.le_of_ble_eq_true rfl) rfl rfl (fun v52 H2 hp52 hs52 => ?_)
    obtain ⟨rfl, hg52⟩ := hp52
    refine g_bipush (pc := 55) X dL_act_55 (by decide +kernel) ?_
    refine gJi (pc := 57) (n2 := 0) (k2 := 0) X cs_L_act_43 (c_L_low (zl K) D base v52 20 (by omega) (by omega)) rfl hbs trivial rfl ⟨Nat.le_of_ble_eq_true rfl, Nat.le_of_ble_eq_true rfl⟩ dL_act_57 (Nat.le_of_ble_eq_true rfl) rfl rfl (fun v57 H2 hp57 hs57 => ?_)
    obtain ⟨rfl, ⟨hg57, hl57⟩⟩ := hp57
    by_cases cs60 : v57 < 0 ∨ 17 < v57
    · skip
      refine g_tableOut (pc := 60) X 283 dL_act_60 (by omega) cs60 (by decide) ?_
      refine g_aload_n (pc := 283) (pl := 5) X dL_act_283 rfl ?_
      refine g_iload_n (pc := 284) (pl := 4) X dL_act_284 rfl ?_
      refine g_bipush (pc := 285) X dL_act_285 (by decide +kernel) ?_
      refine gJi (pc := 287) (n2 := 0) (k2 := 0) X cs_L_act_43 (c_L_low (zl K) D base v4 10 (by omega) (by omega)) rfl hbs trivial rfl ⟨Nat.le_of_ble_eq_true rfl, Nat.le_of_ble_eq_true rfl⟩ dL_act_287 (Nat.le_of_ble_eq_true rfl) rfl rfl (fun v287 H2 hp287 hs287 => ?_)
      obtain ⟨rfl, ⟨hg287, hl287⟩⟩ := hp287
      refine gVi (pc := 290) (n2 := 121) (k2 := 4272) X cs_L_act_72 (c_X8_reclaim (zl K) D base x lo m sa sl st ss g n f v287 hq hlo hI (by omega)) rfl hO (by omega) ⟨hA, hls⟩ rfl ⟨(Nat.le_of_ble_eq_true rfl), (Nat.le_of_ble_eq_true rfl)⟩ dL_act_290 (Nat.le_of_ble_eq_true rfl) rfl rfl (fun v290 H2 hp290 hs290 => ?_)
      obtain ⟨hv, sa2, hA2, hFx⟩ := hp290
      subst hv
      refine g_iret (pc := 293) X R hH dL_act_293 ?_
      exact act_ed hm6 hI hQ hIs ⟨hI.rc v287, Qn.rc hI hQ v287⟩ (er_rc hI v287) (rcR_rg hI v287) hA2 (by have := hFx.1; omega)
    · skip
      by_cases cs60_0 : v57 = 0
      · skip
        refine g_tableIn (pc := 60) (off := 88) X 148 dL_act_60 (by omega) (by omega) (by omega) (by rw [show v57 - 0 = 0 by omega]; rfl) (by decide) ?_
        refine g_aload_n (pc := 148) (pl := 5) X dL_act_148 rfl ?_
        refine g_iload_n (pc := 149) (pl := 4) X dL_act_149 rfl ?_
        refine g_iload (pc := 150) (pl := 1) X dL_act_150 rfl ?_
        refine g_iconst (pc := 152) X dL_act_152 ?_
        refine g_iadd (pc := 153) X dL_act_153 ?_
        refine gJi (pc := 154) (n2 := 0) (k2 := 0) X cs_L_act_43 (c_L_low (zl K) D base v4 ((g 0) + 1) (by omega) (by omega)) rfl hbs trivial rfl ⟨Nat.le_of_ble_eq_true rfl, Nat.le_of_ble_eq_true rfl⟩ dL_act_154 (Nat.le_of_ble_eq_true rfl) rfl rfl (fun v154 H2 hp154 hs154 => ?_)
        obtain ⟨rfl, ⟨hg154, hl154⟩⟩ := hp154
        refine g_iload (pc := 157) (pl := 3) X dL_act_157 rfl ?_
        refine g_iconst (pc := 159) X dL_act_159 ?_
        refine gJi (pc := 160) (n2 := 0) (k2 := 0) X cs_L_act_43 (c_L_low (zl K) D base v12 4 (by omega) (by omega)) rfl hbs trivial rfl ⟨Nat.le_of_ble_eq_true rfl, Nat.le_of_ble_eq_true rfl⟩ dL_act_160 (Nat.le_of_ble_eq_true rfl) rfl rfl (fun v160 H2 hp160 hs160 => ?_)
        obtain ⟨rfl, ⟨hg160, hl160⟩⟩ := hp160
        refine gVi (pc := 163) (n2 := 121) (k2 := 4272) X cs_L_act_46 (c_X8_write (zl K) D base x lo m sa sl st ss g n f v154 v160 hq hlo hI (by omega) (by omega)) rfl hO (by omega) ⟨hA, hls⟩ rfl ⟨(Nat.le_of_ble_eq_true rfl), (Nat.le_of_ble_eq_true rfl)⟩ dL_act_163 (Nat.le_of_ble_eq_true rfl) rfl rfl (fun v163 H2 hp163 hs163 => ?_)
        obtain ⟨hv, sa2, hA2, hFx⟩ := hp163
        subst hv
        refine g_iret (pc := 166) X R hH dL_act_166 ?_
        exact act_ed hm6 hI hQ hIs ⟨hI.wr v154 v160, Qn.wr hI hQ v154 v160⟩ (er_wr hI v154 v160) (wrR_rg hI v154 v160) hA2 (by have := hFx.1; omega)
      · skip
        by_cases cs60_1 : v57 = 1
        · skip
          refine g_tableIn (pc := 60) (off := 88) X 148 dL_act_60 (by omega) (by omega) (by omega) (by rw [show v57 - 0 = 1 by omega]; rfl) (by decide) ?_
          refine g_aload_n (pc := 148) (pl := 5) X dL_act_148 rfl ?_
          refine g_iload_n (pc := 149) (pl := 4) X dL_act_149 rfl ?_
          refine g_iload (pc := 150) (pl := 1) X dL_act_150 rfl ?_
          refine g_iconst (pc := 152) X dL_act_152 ?_
          refine g_iadd (pc := 153) X dL_act_153 ?_
          refine gJi (pc := 154) (n2 := 0) (k2 := 0) X cs_L_act_43 (c_L_low (zl K) D base v4 ((g 0) + 1) (by omega) (by omega)) rfl hbs trivial rfl ⟨Nat.le_of_ble_eq_true rfl, Nat.le_of_ble_eq_true rfl⟩ dL_act_154 (Nat.le_of_ble_eq_true rfl) rfl rfl (fun v154 H2 hp154 hs154 => ?_)
          obtain ⟨rfl, ⟨hg154, hl154⟩⟩ := hp154
          refine g_iload (pc := 157) (pl := 3) X dL_act_157 rfl ?_
          refine g_iconst (pc := 159) X dL_act_159 ?_
          refine gJi (pc := 160) (n2 := 0) (k2 := 0) X cs_L_act_43 (c_L_low (zl K) D base v12 4 (by omega) (by omega)) rfl hbs trivial rfl ⟨Nat.le_of_ble_eq_true rfl, Nat.le_of_ble_eq_true rfl⟩ dL_act_160 (Nat.le_of_ble_eq_true rfl) rfl rfl (fun v160 H2 hp160 hs160 => ?_)
          obtain ⟨rfl, ⟨hg160, hl160⟩⟩ := hp160
          refine gVi (pc := 163) (n2 := 121) (k2 := 4272) X cs_L_act_46 (c_X8_write (zl K) D base x lo m sa sl st ss g n f v154 v160 hq hlo hI (by omega) (by omega)) rfl hO (by omega) ⟨hA, hls⟩ rfl ⟨(Nat.le_of_ble_eq_true rfl), (Nat.le_of_ble_eq_true rfl)⟩ dL_act_163 (Nat.le_of_ble_eq_true rfl) rfl rfl (fun v163 H2 hp163 hs163 => ?_)
          obtain ⟨hv, sa2, hA2, hFx⟩ := hp163
          subst hv
          refine g_iret (pc := 166) X R hH dL_act_166 ?_
          exact act_ed hm6 hI hQ hIs ⟨hI.wr v154 v160, Qn.wr hI hQ v154 v160⟩ (er_wr hI v154 v160) (wrR_rg hI v154 v160) hA2 (by have := hFx.1; omega)
        · skip
          by_cases cs60_2 : v57 = 2
          · skip
            refine g_tableIn (pc := 60) (off := 88) X 148 dL_act_60 (by omega) (by omega) (by omega) (by rw [show v57 - 0 = 2 by omega]; rfl) (by decide) ?_
            refine g_aload_n (pc := 148) (pl := 5) X dL_act_148 rfl ?_
            refine g_iload_n (pc := 149) (pl := 4) X dL_act_149 rfl ?_
            refine g_iload (pc := 150) (pl := 1) X dL_act_150 rfl ?_
            refine g_iconst (pc := 152) X dL_act_152 ?_
            refine g_iadd (pc := 153) X dL_act_153 ?_
            refine gJi (pc := 154) (n2 := 0) (k2 := 0) X cs_L_act_43 (c_L_low (zl K) D base v4 ((g 0) + 1) (by omega) (by omega)) rfl hbs trivial rfl ⟨Nat.le_of_ble_eq_true rfl, Nat.le_of_ble_eq_true rfl⟩ dL_act_154 (Nat.le_of_ble_eq_true rfl) rfl rfl (fun v154 H2 hp154 hs154 => ?_)
            obtain ⟨rfl, ⟨hg154, hl154⟩⟩ := hp154
            refine g_iload (pc := 157) (pl := 3) X dL_act_157 rfl ?_
            refine g_iconst (pc := 159) X dL_act_159 ?_
            refine gJi (pc := 160) (n2 := 0) (k2 := 0) X cs_L_act_43 (c_L_low (zl K) D base v12 4 (by omega) (by omega)) rfl hbs trivial rfl ⟨Nat.le_of_ble_eq_true rfl, Nat.le_of_ble_eq_true rfl⟩ dL_act_160 (Nat.le_of_ble_eq_true rfl) rfl rfl (fun v160 H2 hp160 hs160 => ?_)
            obtain ⟨rfl, ⟨hg160, hl160⟩⟩ := hp160
            refine gVi (pc := 163) (n2 := 121) (k2 := 4272) X cs_L_act_46 (c_X8_write (zl K) D base x lo m sa sl st ss g n f v154 v160 hq hlo hI (by omega) (by omega)) rfl hO (by omega) ⟨hA, hls⟩ rfl ⟨(Nat.le_of_ble_eq_true rfl), (Nat.le_of_ble_eq_true rfl)⟩ dL_act_163 (Nat.le_of_ble_eq_true rfl) rfl rfl (fun v163 H2 hp163 hs163 => ?_)
            obtain ⟨hv, sa2, hA2, hFx⟩ := hp163
            subst hv
            refine g_iret (pc := 166) X R hH dL_act_166 ?_
            exact act_ed hm6 hI hQ hIs ⟨hI.wr v154 v160, Qn.wr hI hQ v154 v160⟩ (er_wr hI v154 v160) (wrR_rg hI v154 v160) hA2 (by have := hFx.1; omega)
          · skip
            by_cases cs60_3 : v57 = 3
            · skip
              refine g_tableIn (pc := 60) (off := 88) X 148 dL_act_60 (by omega) (by omega) (by omega) (by rw [show v57 - 0 = 3 by omega]; rfl) (by decide) ?_
              refine g_aload_n (pc := 148) (pl := 5) X dL_act_148 rfl ?_
              refine g_iload_n (pc := 149) (pl := 4) X dL_act_149 rfl ?_
              refine g_iload (pc := 150) (pl := 1) X dL_act_150 rfl ?_
              refine g_iconst (pc := 152) X dL_act_152 ?_
              refine g_iadd (pc := 153) X dL_act_153 ?_
              refine gJi (pc := 154) (n2 := 0) (k2 := 0) X cs_L_act_43 (c_L_low (zl K) D base v4 ((g 0) + 1) (by omega) (by omega)) rfl hbs trivial rfl ⟨Nat.le_of_ble_eq_true rfl, Nat.le_of_ble_eq_true rfl⟩ dL_act_154 (Nat.le_of_ble_eq_true rfl) rfl rfl (fun v154 H2 hp154 hs154 => ?_)
              obtain ⟨rfl, ⟨hg154, hl154⟩⟩ := hp154
              refine g_iload (pc := 157) (pl := 3) X dL_act_157 rfl ?_
              refine g_iconst (pc := 159) X dL_act_159 ?_
              refine gJi (pc := 160) (n2 := 0) (k2 := 0) X cs_L_act_43 (c_L_low (zl K) D base v12 4 (by omega) (by omega)) rfl hbs trivial rfl ⟨Nat.le_of_ble_eq_true rfl, Nat.le_of_ble_eq_true rfl⟩ dL_act_160 (Nat.le_of_ble_eq_true rfl) rfl rfl (fun v160 H2 hp160 hs160 => ?_)
              obtain ⟨rfl, ⟨hg160, hl160⟩⟩ := hp160
              refine gVi (pc := 163) (n2 := 121) (k2 := 4272) X cs_L_act_46 (c_X8_write (zl K) D base x lo m sa sl st ss g n f v154 v160 hq hlo hI (by omega) (by omega)) rfl hO (by omega) ⟨hA, hls⟩ rfl ⟨(Nat.le_of_ble_eq_true rfl), (Nat.le_of_ble_eq_true rfl)⟩ dL_act_163 (Nat.le_of_ble_eq_true rfl) rfl rfl (fun v163 H2 hp163 hs163 => ?_)
              obtain ⟨hv, sa2, hA2, hFx⟩ := hp163
              subst hv
              refine g_iret (pc := 166) X R hH dL_act_166 ?_
              exact act_ed hm6 hI hQ hIs ⟨hI.wr v154 v160, Qn.wr hI hQ v154 v160⟩ (er_wr hI v154 v160) (wrR_rg hI v154 v160) hA2 (by have := hFx.1; omega)
            · skip
              by_cases cs60_4 : v57 = 4
              · skip
                refine g_tableIn (pc := 60) (off := 88) X 148 dL_act_60 (by omega) (by omega) (by omega) (by rw [show v57 - 0 = 4 by omega]; rfl) (by decide) ?_
                refine g_aload_n (pc := 148) (pl := 5) X dL_act_148 rfl ?_
                refine g_iload_n (pc := 149) (pl := 4) X dL_act_149 rfl ?_
                refine g_iload (pc := 150) (pl := 1) X dL_act_150 rfl ?_
                refine g_iconst (pc := 152) X dL_act_152 ?_
                refine g_iadd (pc := 153) X dL_act_153 ?_
                refine gJi (pc := 154) (n2 := 0) (k2 := 0) X cs_L_act_43 (c_L_low (zl K) D base v4 ((g 0) + 1) (by omega) (by omega)) rfl hbs trivial rfl ⟨Nat.le_of_ble_eq_true rfl, Nat.le_of_ble_eq_true rfl⟩ dL_act_154 (Nat.le_of_ble_eq_true rfl) rfl rfl (fun v154 H2 hp154 hs154 => ?_)
                obtain ⟨rfl, ⟨hg154, hl154⟩⟩ := hp154
                refine g_iload (pc := 157) (pl := 3) X dL_act_157 rfl ?_
                refine g_iconst (pc := 159) X dL_act_159 ?_
                refine gJi (pc := 160) (n2 := 0) (k2 := 0) X cs_L_act_43 (c_L_low (zl K) D base v12 4 (by omega) (by omega)) rfl hbs trivial rfl ⟨Nat.le_of_ble_eq_true rfl, Nat.le_of_ble_eq_true rfl⟩ dL_act_160 (Nat.le_of_ble_eq_true rfl) rfl rfl (fun v160 H2 hp160 hs160 => ?_)
                obtain ⟨rfl, ⟨hg160, hl160⟩⟩ := hp160
                refine gVi (pc := 163) (n2 := 121) (k2 := 4272) X cs_L_act_46 (c_X8_write (zl K) D base x lo m sa sl st ss g n f v154 v160 hq hlo hI (by omega) (by omega)) rfl hO (by omega) ⟨hA, hls⟩ rfl ⟨(Nat.le_of_ble_eq_true rfl), (Nat.le_of_ble_eq_true rfl)⟩ dL_act_163 (Nat.le_of_ble_eq_true rfl) rfl rfl (fun v163 H2 hp163 hs163 => ?_)
                obtain ⟨hv, sa2, hA2, hFx⟩ := hp163
                subst hv
                refine g_iret (pc := 166) X R hH dL_act_166 ?_
                exact act_ed hm6 hI hQ hIs ⟨hI.wr v154 v160, Qn.wr hI hQ v154 v160⟩ (er_wr hI v154 v160) (wrR_rg hI v154 v160) hA2 (by have := hFx.1; omega)
              · skip
                by_cases cs60_5 : v57 = 5
                · skip
                  refine g_tableIn (pc := 60) (off := 88) X 148 dL_act_60 (by omega) (by omega) (by omega) (by rw [show v57 - 0 = 5 by omega]; rfl) (by decide) ?_
                  refine g_aload_n (pc := 148) (pl := 5) X dL_act_148 rfl ?_
                  refine g_iload_n (pc := 149) (pl := 4) X dL_act_149 rfl ?_
                  refine g_iload (pc := 150) (pl := 1) X dL_act_150 rfl ?_
                  refine g_iconst (pc := 152) X dL_act_152 ?_
                  refine g_iadd (pc := 153) X dL_act_153 ?_
                  refine gJi (pc := 154) (n2 := 0) (k2 := 0) X cs_L_act_43 (c_L_low (zl K) D base v4 ((g 0) + 1) (by omega) (by omega)) rfl hbs trivial rfl ⟨Nat.le_of_ble_eq_true rfl, Nat.le_of_ble_eq_true rfl⟩ dL_act_154 (Nat.le_of_ble_eq_true rfl) rfl rfl (fun v154 H2 hp154 hs154 => ?_)
                  obtain ⟨rfl, ⟨hg154, hl154⟩⟩ := hp154
                  refine g_iload (pc := 157) (pl := 3) X dL_act_157 rfl ?_
                  refine g_iconst (pc := 159) X dL_act_159 ?_
                  refine gJi (pc := 160) (n2 := 0) (k2 := 0) X cs_L_act_43 (c_L_low (zl K) D base v12 4 (by omega) (by omega)) rfl hbs trivial rfl ⟨Nat.le_of_ble_eq_true rfl, Nat.le_of_ble_eq_true rfl⟩ dL_act_160 (Nat.le_of_ble_eq_true rfl) rfl rfl (fun v160 H2 hp160 hs160 => ?_)
                  obtain ⟨rfl, ⟨hg160, hl160⟩⟩ := hp160
                  refine gVi (pc := 163) (n2 := 121) (k2 := 4272) X cs_L_act_46 (c_X8_write (zl K) D base x lo m sa sl st ss g n f v154 v160 hq hlo hI (by omega) (by omega)) rfl hO (by omega) ⟨hA, hls⟩ rfl ⟨(Nat.le_of_ble_eq_true rfl), (Nat.le_of_ble_eq_true rfl)⟩ dL_act_163 (Nat.le_of_ble_eq_true rfl) rfl rfl (fun v163 H2 hp163 hs163 => ?_)
                  obtain ⟨hv, sa2, hA2, hFx⟩ := hp163
                  subst hv
                  refine g_iret (pc := 166) X R hH dL_act_166 ?_
                  exact act_ed hm6 hI hQ hIs ⟨hI.wr v154 v160, Qn.wr hI hQ v154 v160⟩ (er_wr hI v154 v160) (wrR_rg hI v154 v160) hA2 (by have := hFx.1; omega)
                · skip
                  by_cases cs60_6 : v57 = 6
                  · skip
                    refine g_tableIn (pc := 60) (off := 88) X 148 dL_act_60 (by omega) (by omega) (by omega) (by rw [show v57 - 0 = 6 by omega]; rfl) (by decide) ?_
                    refine g_aload_n (pc := 148) (pl := 5) X dL_act_148 rfl ?_
                    refine g_iload_n (pc := 149) (pl := 4) X dL_act_149 rfl ?_
                    refine g_iload (pc := 150) (pl := 1) X dL_act_150 rfl ?_
                    refine g_iconst (pc := 152) X dL_act_152 ?_
                    refine g_iadd (pc := 153) X dL_act_153 ?_
                    refine gJi (pc := 154) (n2 := 0) (k2 := 0) X cs_L_act_43 (c_L_low (zl K) D base v4 ((g 0) + 1) (by omega) (by omega)) rfl hbs trivial rfl ⟨Nat.le_of_ble_eq_true rfl, Nat.le_of_ble_eq_true rfl⟩ dL_act_154 (Nat.le_of_ble_eq_true rfl) rfl rfl (fun v154 H2 hp154 hs154 => ?_)
                    obtain ⟨rfl, ⟨hg154, hl154⟩⟩ := hp154
                    refine g_iload (pc := 157) (pl := 3) X dL_act_157 rfl ?_
                    refine g_iconst (pc := 159) X dL_act_159 ?_
                    refine gJi (pc := 160) (n2 := 0) (k2 := 0) X cs_L_act_43 (c_L_low (zl K) D base v12 4 (by omega) (by omega)) rfl hbs trivial rfl ⟨Nat.le_of_ble_eq_true rfl, Nat.le_of_ble_eq_true rfl⟩ dL_act_160 (Nat.le_of_ble_eq_true rfl) rfl rfl (fun v160 H2 hp160 hs160 => ?_)
                    obtain ⟨rfl, ⟨hg160, hl160⟩⟩ := hp160
                    refine gVi (pc := 163) (n2 := 121) (k2 := 4272) X cs_L_act_46 (c_X8_write (zl K) D base x lo m sa sl st ss g n f v154 v160 hq hlo hI (by omega) (by omega)) rfl hO (by omega) ⟨hA, hls⟩ rfl ⟨(Nat.le_of_ble_eq_true rfl), (Nat.le_of_ble_eq_true rfl)⟩ dL_act_163 (Nat.le_of_ble_eq_true rfl) rfl rfl (fun v163 H2 hp163 hs163 => ?_)
                    obtain ⟨hv, sa2, hA2, hFx⟩ := hp163
                    subst hv
                    refine g_iret (pc := 166) X R hH dL_act_166 ?_
                    exact act_ed hm6 hI hQ hIs ⟨hI.wr v154 v160, Qn.wr hI hQ v154 v160⟩ (er_wr hI v154 v160) (wrR_rg hI v154 v160) hA2 (by have := hFx.1; omega)
                  · skip
                    by_cases cs60_7 : v57 = 7
                    · skip
                      refine g_tableIn (pc := 60) (off := 88) X 148 dL_act_60 (by omega) (by omega) (by omega) (by rw [show v57 - 0 = 7 by omega]; rfl) (by decide) ?_
                      refine g_aload_n (pc := 148) (pl := 5) X dL_act_148 rfl ?_
                      refine g_iload_n (pc := 149) (pl := 4) X dL_act_149 rfl ?_
                      refine g_iload (pc := 150) (pl := 1) X dL_act_150 rfl ?_
                      refine g_iconst (pc := 152) X dL_act_152 ?_
                      refine g_iadd (pc := 153) X dL_act_153 ?_
                      refine gJi (pc := 154) (n2 := 0) (k2 := 0) X cs_L_act_43 (c_L_low (zl K) D base v4 ((g 0) + 1) (by omega) (by omega)) rfl hbs trivial rfl ⟨Nat.le_of_ble_eq_true rfl, Nat.le_of_ble_eq_true rfl⟩ dL_act_154 (Nat.le_of_ble_eq_true rfl) rfl rfl (fun v154 H2 hp154 hs154 => ?_)
                      obtain ⟨rfl, ⟨hg154, hl154⟩⟩ := hp154
                      refine g_iload (pc := 157) (pl := 3) X dL_act_157 rfl ?_
                      refine g_iconst (pc := 159) X dL_act_159 ?_
                      refine gJi (pc := 160) (n2 := 0) (k2 := 0) X cs_L_act_43 (c_L_low (zl K) D base v12 4 (by omega) (by omega)) rfl hbs trivial rfl ⟨Nat.le_of_ble_eq_true rfl, Nat.le_of_ble_eq_true rfl⟩ dL_act_160 (Nat.le_of_ble_eq_true rfl) rfl rfl (fun v160 H2 hp160 hs160 => ?_)
                      obtain ⟨rfl, ⟨hg160, hl160⟩⟩ := hp160
                      refine gVi (pc := 163) (n2 := 121) (k2 := 4272) X cs_L_act_46 (c_X8_write (zl K) D base x lo m sa sl st ss g n f v154 v160 hq hlo hI (by omega) (by omega)) rfl hO (by omega) ⟨hA, hls⟩ rfl ⟨(Nat.le_of_ble_eq_true rfl), (Nat.le_of_ble_eq_true rfl)⟩ dL_act_163 (Nat.le_of_ble_eq_true rfl) rfl rfl (fun v163 H2 hp163 hs163 => ?_)
                      obtain ⟨hv, sa2, hA2, hFx⟩ := hp163
                      subst hv
                      refine g_iret (pc := 166) X R hH dL_act_166 ?_
                      exact act_ed hm6 hI hQ hIs ⟨hI.wr v154 v160, Qn.wr hI hQ v154 v160⟩ (er_wr hI v154 v160) (wrR_rg hI v154 v160) hA2 (by have := hFx.1; omega)
                    · skip
                      by_cases cs60_8 : v57 = 8
                      · skip
                        refine g_tableIn (pc := 60) (off := 107) X 167 dL_act_60 (by omega) (by omega) (by omega) (by rw [show v57 - 0 = 8 by omega]; rfl) (by decide) ?_
                        refine g_aload_n (pc := 167) (pl := 5) X dL_act_167 rfl ?_
                        refine g_iload (pc := 168) (pl := 0) X dL_act_168 rfl ?_
                        refine g_iload (pc := 170) (pl := 0) X dL_act_170 rfl ?_
                        refine g_iload (pc := 172) (pl := 3) X dL_act_172 rfl ?_
                        refine g_iconst (pc := 174) X dL_act_174 ?_
                        refine gJi (pc := 175) (n2 := 0) (k2 := 0) X cs_L_act_43 (c_L_low (zl K) D base v12 4 (by omega) (by omega)) rfl hbs trivial rfl ⟨Nat.le_of_ble_eq_true rfl, Nat.le_of_ble_eq_true rfl⟩ dL_act_175 (Nat.le_of_ble_eq_true rfl) rfl rfl (fun v175 H2 hp175 hs175 => ?_)
                        obtain ⟨rfl, ⟨hg175, hl175⟩⟩ := hp175
                        refine g_iadd (pc := 178) X dL_act_178 ?_
                        refine gVi (pc := 179) (n2 := 121) (k2 := 4272) X cs_L_act_49 (c_X8_erase (zl K) D base x lo m sa sl st ss g n f v45 (v45 + v175) hq hlo hI (by omega) (by omega)) rfl hO (by omega) ⟨hA, hls⟩ rfl ⟨(Nat.le_of_ble_eq_true rfl), (Nat.le_of_ble_eq_true rfl)⟩ dL_act_179 (Nat.le_of_ble_eq_true rfl) rfl rfl (fun v179 H2 hp179 hs179 => ?_)
                        obtain ⟨hv, sa2, hA2, hFx⟩ := hp179
                        subst hv
                        refine g_iret (pc := 182) X R hH dL_act_182 ?_
                        exact act_ed hm6 hI hQ hIs ⟨hI.er v45 (v45 + v175), Qn.er hI hQ v45 (v45 + v175)⟩ (er_er hI v45 (v45 + v175)) (erR_rg (g := g) v45 (v45 + v175)) hA2 (by have := hFx.1; omega)
                      · skip
                        by_cases cs60_9 : v57 = 9
                        · skip
                          refine g_tableIn (pc := 60) (off := 123) X 183 dL_act_60 (by omega) (by omega) (by omega) (by rw [show v57 - 0 = 9 by omega]; rfl) (by decide) ?_
                          refine g_aload_n (pc := 183) (pl := 5) X dL_act_183 rfl ?_
                          refine g_iload (pc := 184) (pl := 0) X dL_act_184 rfl ?_
                          refine g_iload (pc := 186) (pl := 0) X dL_act_186 rfl ?_
                          refine g_iload (pc := 188) (pl := 3) X dL_act_188 rfl ?_
                          refine g_iconst (pc := 190) X dL_act_190 ?_
                          refine gJi (pc := 191) (n2 := 0) (k2 := 0) X cs_L_act_43 (c_L_low (zl K) D base v12 4 (by omega) (by omega)) rfl hbs trivial rfl ⟨Nat.le_of_ble_eq_true rfl, Nat.le_of_ble_eq_true rfl⟩ dL_act_191 (Nat.le_of_ble_eq_true rfl) rfl rfl (fun v191 H2 hp191 hs191 => ?_)
                          obtain ⟨rfl, ⟨hg191, hl191⟩⟩ := hp191
                          refine g_iadd (pc := 194) X dL_act_194 ?_
                          refine g_iload (pc := 195) (pl := 2) X dL_act_195 rfl ?_
                          refine g_iload (pc := 197) (pl := 1) X dL_act_197 rfl ?_
                          refine g_iconst (pc := 199) X dL_act_199 ?_
                          refine g_iadd (pc := 200) X dL_act_200 ?_
                          refine gJi (pc := 201) (n2 := 0) (k2 := 0) X cs_L_act_43 (c_L_low (zl K) D base v21 ((g 0) + 1) (by omega) (by omega)) rfl hbs trivial rfl ⟨Nat.le_of_ble_eq_true rfl, Nat.le_of_ble_eq_true rfl⟩ dL_act_201 (Nat.le_of_ble_eq_true rfl) rfl rfl (fun v201 H2 hp201 hs201 => ?_)
                          obtain ⟨rfl, ⟨hg201, hl201⟩⟩ := hp201
                          refine gVi (pc := 204) (n2 := 121) (k2 := 4272) X cs_L_act_52 (c_X8_move (zl K) D base x lo m sa sl st ss g n f v45 (v45 + v191) v201 hq hlo hI (by omega) (by omega) (by omega)) rfl hO (by omega) ⟨hA, hls⟩ rfl ⟨(Nat.le_of_ble_eq_true rfl), (Nat.le_of_ble_eq_true rfl)⟩ dL_act_204 (Nat.le_of_ble_eq_true rfl) rfl rfl (fun v204 H2 hp204 hs204 => ?_)
                          obtain ⟨hv, sa2, hA2, hFx⟩ := hp204
                          subst hv
                          refine g_iret (pc := 207) X R hH dL_act_207 ?_
                          exact act_ed hm6 hI hQ hIs ⟨hI.mvs v45 (v45 + v191) v201, Qn.mvs hI hQ v45 (v45 + v191) v201⟩ (er_mvs hI v45 (v45 + v191) v201) (mvR_rg hI v45 (v45 + v191) v201) hA2 (by have := hFx.1; omega)
                        · skip
                          by_cases cs60_10 : v57 = 10
                          · skip
                            refine g_tableIn (pc := 60) (off := 123) X 183 dL_act_60 (by omega) (by omega) (by omega) (by rw [show v57 - 0 = 10 by omega]; rfl) (by decide) ?_
                            refine g_aload_n (pc := 183) (pl := 5) X dL_act_183 rfl ?_
                            refine g_iload (pc := 184) (pl := 0) X dL_act_184 rfl ?_
                            refine g_iload (pc := 186) (pl := 0) X dL_act_186 rfl ?_
                            refine g_iload (pc := 188) (pl := 3) X dL_act_188 rfl ?_
                            refine g_iconst (pc := 190) X dL_act_190 ?_
                            refine gJi (pc := 191) (n2 := 0) (k2 := 0) X cs_L_act_43 (c_L_low (zl K) D base v12 4 (by omega) (by omega)) rfl hbs trivial rfl ⟨Nat.le_of_ble_eq_true rfl, Nat.le_of_ble_eq_true rfl⟩ dL_act_191 (Nat.le_of_ble_eq_true rfl) rfl rfl (fun v191 H2 hp191 hs191 => ?_)
                            obtain ⟨rfl, ⟨hg191, hl191⟩⟩ := hp191
                            refine g_iadd (pc := 194) X dL_act_194 ?_
                            refine g_iload (pc := 195) (pl := 2) X dL_act_195 rfl ?_
                            refine g_iload (pc := 197) (pl := 1) X dL_act_197 rfl ?_
                            refine g_iconst (pc := 199) X dL_act_199 ?_
                            refine g_iadd (pc := 200) X dL_act_200 ?_
                            refine gJi (pc := 201) (n2 := 0) (k2 := 0) X cs_L_act_43 (c_L_low (zl K) D base v21 ((g 0) + 1) (by omega) (by omega)) rfl hbs trivial rfl ⟨Nat.le_of_ble_eq_true rfl, Nat.le_of_ble_eq_true rfl⟩ dL_act_201 (Nat.le_of_ble_eq_true rfl) rfl rfl (fun v201 H2 hp201 hs201 => ?_)
                            obtain ⟨rfl, ⟨hg201, hl201⟩⟩ := hp201
                            refine gVi (pc := 204) (n2 := 121) (k2 := 4272) X cs_L_act_52 (c_X8_move (zl K) D base x lo m sa sl st ss g n f v45 (v45 + v191) v201 hq hlo hI (by omega) (by omega) (by omega)) rfl hO (by omega) ⟨hA, hls⟩ rfl ⟨(Nat.le_of_ble_eq_true rfl), (Nat.le_of_ble_eq_true rfl)⟩ dL_act_204 (Nat.le_of_ble_eq_true rfl) rfl rfl (fun v204 H2 hp204 hs204 => ?_)
                            obtain ⟨hv, sa2, hA2, hFx⟩ := hp204
                            subst hv
                            refine g_iret (pc := 207) X R hH dL_act_207 ?_
                            exact act_ed hm6 hI hQ hIs ⟨hI.mvs v45 (v45 + v191) v201, Qn.mvs hI hQ v45 (v45 + v191) v201⟩ (er_mvs hI v45 (v45 + v191) v201) (mvR_rg hI v45 (v45 + v191) v201) hA2 (by have := hFx.1; omega)
                          · skip
                            by_cases cs60_11 : v57 = 11
                            · skip
                              refine g_tableIn (pc := 60) (off := 148) X 208 dL_act_60 (by omega) (by omega) (by omega) (by rw [show v57 - 0 = 11 by omega]; rfl) (by decide) ?_
                              refine g_aload_n (pc := 208) (pl := 5) X dL_act_208 rfl ?_
                              refine g_iload (pc := 209) (pl := 0) X dL_act_209 rfl ?_
                              refine g_iload (pc := 211) (pl := 0) X dL_act_211 rfl ?_
                              refine g_iload (pc := 213) (pl := 3) X dL_act_213 rfl ?_
                              refine g_iconst (pc := 215) X dL_act_215 ?_
                              refine gJi (pc := 216) (n2 := 0) (k2 := 0) X cs_L_act_43 (c_L_low (zl K) D base v12 5 (by omega) (by omega)) rfl hbs trivial rfl ⟨Nat.le_of_ble_eq_true rfl, Nat.le_of_ble_eq_true rfl⟩ dL_act_216 (Nat.le_of_ble_eq_true rfl) rfl rfl (fun v216 H2 hp216 hs216 => ?_)
                              obtain ⟨rfl, ⟨hg216, hl216⟩⟩ := hp216
                              refine g_iadd (pc := 219) X dL_act_219 ?_
                              refine gVi (pc := 220) (n2 := 121) (k2 := 4272) X cs_L_act_56 (c_X8_note (zl K) D base x lo m sa sl st ss g n f v45 (v45 + v216) hq hlo hI (by omega) (by omega)) rfl hO (by omega) ⟨hA, hls⟩ rfl ⟨(Nat.le_of_ble_eq_true rfl), (Nat.le_of_ble_eq_true rfl)⟩ dL_act_220 (Nat.le_of_ble_eq_true rfl) rfl rfl (fun v220 H2 hp220 hs220 => ?_)
                              obtain ⟨hv, sa2, hA2, hFx⟩ := hp220
                              subst hv
                              refine g_iret (pc := 223) X R hH dL_act_223 ?_
                              exact act_ed hm6 hI hQ hIs ⟨hI.nt' v45 (v45 + v216), Qn.nt hI hQ v45 (v45 + v216)⟩ (er_nt hI v45 (v45 + v216)) (ntR_rg hI v45 (v45 + v216)) hA2 (by have := hFx.1; omega)
                            · skip
                              by_cases cs60_12 : v57 = 12
                              · skip
                                refine g_tableIn (pc := 60) (off := 148) X 208 dL_act_60 (by omega) (by omega) (by omega) (by rw [show v57 - 0 = 12 by omega]; rfl) (by decide) ?_
                                refine g_aload_n (pc := 208) (pl := 5) X dL_act_208 rfl ?_
                                refine g_iload (pc := 209) (pl := 0) X dL_act_209 rfl ?_
                                refine g_iload (pc := 211) (pl := 0) X dL_act_211 rfl ?_
                                refine g_iload (pc := 213) (pl := 3) X dL_act_213 rfl ?_
                                refine g_iconst (pc := 215) X dL_act_215 ?_
                                refine gJi (pc := 216) (n2 := 0) (k2 := 0) X cs_L_act_43 (c_L_low (zl K) D base v12 5 (by omega) (by omega)) rfl hbs trivial rfl ⟨Nat.le_of_ble_eq_true rfl, Nat.le_of_ble_eq_true rfl⟩ dL_act_216 (Nat.le_of_ble_eq_true rfl) rfl rfl (fun v216 H2 hp216 hs216 => ?_)
                                obtain ⟨rfl, ⟨hg216, hl216⟩⟩ := hp216
                                refine g_iadd (pc := 219) X dL_act_219 ?_
                                refine gVi (pc := 220) (n2 := 121) (k2 := 4272) X cs_L_act_56 (c_X8_note (zl K) D base x lo m sa sl st ss g n f v45 (v45 + v216) hq hlo hI (by omega) (by omega)) rfl hO (by omega) ⟨hA, hls⟩ rfl ⟨(Nat.le_of_ble_eq_true rfl), (Nat.le_of_ble_eq_true rfl)⟩ dL_act_220 (Nat.le_of_ble_eq_true rfl) rfl rfl (fun v220 H2 hp220 hs220 => ?_)
                                obtain ⟨hv, sa2, hA2, hFx⟩ := hp220
                                subst hv
                                refine g_iret (pc := 223) X R hH dL_act_223 ?_
                                exact act_ed hm6 hI hQ hIs ⟨hI.nt' v45 (v45 + v216), Qn.nt hI hQ v45 (v45 + v216)⟩ (er_nt hI v45 (v45 + v216)) (ntR_rg hI v45 (v45 + v216)) hA2 (by have := hFx.1; omega)
                              · skip
                                by_cases cs60_13 : v57 = 13
                                · skip
                                  refine g_tableIn (pc := 60) (off := 148) X 208 dL_act_60 (by omega) (by omega) (by omega) (by rw [show v57 - 0 = 13 by omega]; rfl) (by decide) ?_
                                  refine g_aload_n (pc := 208) (pl := 5) X dL_act_208 rfl ?_
                                  refine g_iload (pc := 209) (pl := 0) X dL_act_209 rfl ?_
                                  refine g_iload (pc := 211) (pl := 0) X dL_act_211 rfl ?_
                                  refine g_iload (pc := 213) (pl := 3) X dL_act_213 rfl ?_
                                  refine g_iconst (pc := 215) X dL_act_215 ?_
                                  refine gJi (pc := 216) (n2 := 0) (k2 := 0) X cs_L_act_43 (c_L_low (zl K) D base v12 5 (by omega) (by omega)) rfl hbs trivial rfl ⟨Nat.le_of_ble_eq_true rfl, Nat.le_of_ble_eq_true rfl⟩ dL_act_216 (Nat.le_of_ble_eq_true rfl) rfl rfl (fun v216 H2 hp216 hs216 => ?_)
                                  obtain ⟨rfl, ⟨hg216, hl216⟩⟩ := hp216
                                  refine g_iadd (pc := 219) X dL_act_219 ?_
                                  refine gVi (pc := 220) (n2 := 121) (k2 := 4272) X cs_L_act_56 (c_X8_note (zl K) D base x lo m sa sl st ss g n f v45 (v45 + v216) hq hlo hI (by omega) (by omega)) rfl hO (by omega) ⟨hA, hls⟩ rfl ⟨(Nat.le_of_ble_eq_true rfl), (Nat.le_of_ble_eq_true rfl)⟩ dL_act_220 (Nat.le_of_ble_eq_true rfl) rfl rfl (fun v220 H2 hp220 hs220 => ?_)
                                  obtain ⟨hv, sa2, hA2, hFx⟩ := hp220
                                  subst hv
                                  refine g_iret (pc := 223) X R hH dL_act_223 ?_
                                  exact act_ed hm6 hI hQ hIs ⟨hI.nt' v45 (v45 + v216), Qn.nt hI hQ v45 (v45 + v216)⟩ (er_nt hI v45 (v45 + v216)) (ntR_rg hI v45 (v45 + v216)) hA2 (by have := hFx.1; omega)
                                · skip
                                  by_cases cs60_14 : v57 = 14
                                  · skip
                                    refine g_tableIn (pc := 60) (off := 164) X 224 dL_act_60 (by omega) (by omega) (by omega) (by rw [show v57 - 0 = 14 by omega]; rfl) (by decide) ?_
                                    refine g_aload_n (pc := 224) (pl := 5) X dL_act_224 rfl ?_
                                    refine g_iload_n (pc := 225) (pl := 4) X dL_act_225 rfl ?_
                                    refine g_bipush (pc := 226) X dL_act_226 (by decide +kernel) ?_
                                    refine gJi (pc := 228) (n2 := 0) (k2 := 0) X cs_L_act_43 (c_L_low (zl K) D base v4 8 (by omega) (by omega)) rfl hbs trivial rfl ⟨Nat.le_of_ble_eq_true rfl, Nat.le_of_ble_eq_true rfl⟩ dL_act_228 (Nat.le_of_ble_eq_true rfl) rfl rfl (fun v228 H2 hp228 hs228 => ?_)
                                    obtain ⟨rfl, ⟨hg228, hl228⟩⟩ := hp228
                                    refine gVi (pc := 231) (n2 := 121) (k2 := 4272) X cs_L_act_59 (c_X8_reply (zl K) D base x lo m sa sl st ss g n f v228 hq hlo hI (by omega)) rfl hO (by omega) ⟨hA, hls⟩ rfl ⟨(Nat.le_of_ble_eq_true rfl), (Nat.le_of_ble_eq_true rfl)⟩ dL_act_231 (Nat.le_of_ble_eq_true rfl) rfl rfl (fun v231 H2 hp231 hs231 => ?_)
                                    obtain ⟨hv, sa2, hA2, hFx⟩ := hp231
                                    subst hv
                                    refine g_iret (pc := 234) X R hH dL_act_234 ?_
                                    exact act_ed hm6 hI hQ hIs ⟨hI.rp v228, Qn.rp hI hQ v228⟩ (er_rp hI v228) (rpR_rg hI v228) hA2 (by have := hFx.1; omega)
                                  · skip
                                    by_cases cs60_15 : v57 = 15
                                    · skip
                                      refine g_tableIn (pc := 60) (off := 175) X 235 dL_act_60 (by omega) (by omega) (by omega) (by rw [show v57 - 0 = 15 by omega]; rfl) (by decide) ?_
                                      refine g_iload (pc := 235) (pl := 3) X dL_act_235 rfl ?_
                                      refine g_iconst (pc := 237) X dL_act_237 ?_
                                      refine gJi (pc := 238) (n2 := 0) (k2 := 0) X cs_L_act_43 (c_L_low (zl K) D base v12 2 (by omega) (by omega)) rfl hbs trivial rfl ⟨Nat.le_of_ble_eq_true rfl, Nat.le_of_ble_eq_true rfl⟩ dL_act_238 (Nat.le_of_ble_eq_true rfl) rfl rfl (fun v238 H2 hp238 hs238 => ?_)
                                      obtain ⟨rfl, ⟨hg238, hl238⟩⟩ := hp238
                                      refine g_if_ne (pc := 241) X 257 dL_act_241 (by decide) (by omega) (fun c241 => ?_) (fun c241 => ?_)
                                      · skip
                                        refine g_iconst (pc := 257) X dL_act_257 ?_
                                        refine G.widen (n' := 121) (k' := 4272) (by omega) (by omega) ?_
                                        refine g_iret (pc := 258) X R hH dL_act_258 ?_
                                        exact ⟨m, sa, st, g, hA, ⟨hI, hQ⟩, hIs, fun z => ⟨rfl, rfl⟩, by omega, hls⟩
                                      · skip
                                        refine g_aload_n (pc := 244) (pl := 5) X dL_act_244 rfl ?_
                                        refine g_iload_n (pc := 245) (pl := 4) X dL_act_245 rfl ?_
                                        refine g_bipush (pc := 246) X dL_act_246 (by decide +kernel) ?_
                                        refine gJi (pc := 248) (n2 := 0) (k2 := 0) X cs_L_act_43 (c_L_low (zl K) D base v4 8 (by omega) (by omega)) rfl hbs trivial rfl ⟨Nat.le_of_ble_eq_true rfl, Nat.le_of_ble_eq_true rfl⟩ dL_act_248 (Nat.le_of_ble_eq_true rfl) rfl rfl (fun v248 H2 hp248 hs248 => ?_)
                                        obtain ⟨rfl, ⟨hg248, hl248⟩⟩ := hp248
                                        refine gVi (pc := 251) (n2 := 121) (k2 := 4272) X cs_L_act_62 (c_X8_drop (zl K) D base x lo m sa sl st ss g n f v248 hq hlo hI (by omega)) rfl hO (by omega) ⟨hA, hls⟩ rfl ⟨(Nat.le_of_ble_eq_true rfl), (Nat.le_of_ble_eq_true rfl)⟩ dL_act_251 (Nat.le_of_ble_eq_true rfl) rfl rfl (fun v251 H2 hp251 hs251 => ?_)
                                        obtain ⟨hv, sa2, hA2, hFx⟩ := hp251
                                        subst hv
                                        refine g_goto (pc := 254) X 258 dL_act_254 (by decide) ?_
                                        refine g_iret (pc := 258) X R hH dL_act_258 ?_
                                        exact act_ed hm6 hI hQ hIs ⟨hI.dp v248, Qn.dp hI hQ v248⟩ (er_dp hI v248) (dpR_rg (g := g) v248) hA2 (by have := hFx.1; omega)
                                    · skip
                                      by_cases cs60_16 : v57 = 16
                                      · skip
                                        refine g_tableIn (pc := 60) (off := 199) X 259 dL_act_60 (by omega) (by omega) (by omega) (by rw [show v57 - 0 = 16 by omega]; rfl) (by decide) ?_
                                        refine g_aload_n (pc := 259) (pl := 5) X dL_act_259 rfl ?_
                                        refine g_iload_n (pc := 260) (pl := 4) X dL_act_260 rfl ?_
                                        refine g_iconst (pc := 261) X dL_act_261 ?_
                                        refine gJi (pc := 262) (n2 := 0) (k2 := 0) X cs_L_act_43 (c_L_low (zl K) D base v4 3 (by omega) (by omega)) rfl hbs trivial rfl ⟨Nat.le_of_ble_eq_true rfl, Nat.le_of_ble_eq_true rfl⟩ dL_act_262 (Nat.le_of_ble_eq_true rfl) rfl rfl (fun v262 H2 hp262 hs262 => ?_)
                                        obtain ⟨rfl, ⟨hg262, hl262⟩⟩ := hp262
                                        refine g_iconst (pc := 265) X dL_act_265 ?_
                                        refine g_iload (pc := 266) (pl := 3) X dL_act_266 rfl ?_
                                        refine g_bipush (pc := 268) X dL_act_268 (by decide +kernel) ?_
                                        refine gJi (pc := 270) (n2 := 0) (k2 := 0) X cs_L_act_43 (c_L_low (zl K) D base v12 9 (by omega) (by omega)) rfl hbs trivial rfl ⟨Nat.le_of_ble_eq_true rfl, Nat.le_of_ble_eq_true rfl⟩ dL_act_270 (Nat.le_of_ble_eq_true rfl) rfl rfl (fun v270 H2 hp270 hs270 => ?_)
                                        obtain ⟨rfl, ⟨hg270, hl270⟩⟩ := hp270
                                        refine g_iadd (pc := 273) X dL_act_273 ?_
                                        refine gVi (pc := 274) (n2 := 121) (k2 := 4272) X cs_L_act_65 (c_X8_set (zl K) D base x lo m sa sl st ss g n f v262 (1 + v270) hq hlo hI (by omega) (by omega)) rfl hO (by omega) ⟨hA, hls⟩ rfl ⟨(Nat.le_of_ble_eq_true rfl), (Nat.le_of_ble_eq_true rfl)⟩ dL_act_274 (Nat.le_of_ble_eq_true rfl) rfl rfl (fun v274 H2 hp274 hs274 => ?_)
                                        obtain ⟨hv, sa2, hA2, hFx⟩ := hp274
                                        subst hv
                                        refine g_iret (pc := 277) X R hH dL_act_277 ?_
                                        exact act_ed hm6 hI hQ hIs ⟨hI.st v262 (1 + v270), Qn.st hQ v262 (1 + v270)⟩ (er_st hI v262 (1 + v270)) (setR_rg hI v262 (1 + v270)) hA2 (by have := hFx.1; omega)
                                      · skip
                                        have cs60_17 : v57 = 17 := by omega
                                        refine g_tableIn (pc := 60) (off := 218) X 278 dL_act_60 (by omega) (by omega) (by omega) (by rw [show v57 - 0 = 17 by omega]; rfl) (by decide) ?_
                                        refine g_aload_n (pc := 278) (pl := 5) X dL_act_278 rfl ?_
                                        refine gVi (pc := 279) (n2 := 0) (k2 := 0) X cs_L_act_68 (c_X8_undo (zl K) D base x lo m sa sl st ss g n f hq hlo hI) rfl hO (by omega) hA rfl ⟨Nat.le_of_ble_eq_true rfl, Nat.le_of_ble_eq_true rfl⟩ dL_act_279 (Nat.le_of_ble_eq_true rfl) rfl rfl (fun v279 H2 hp279 hs279 => ?_)
                                        obtain ⟨hv, hA2, hFx⟩ := hp279
                                        subst hv
                                        refine G.widen (n' := 121) (k' := 4272) (by omega) (by omega) ?_
                                        refine g_iret (pc := 282) X R hH dL_act_282 ?_
                                        exact act_un hm6 hI hQ hIs hA2 (by have := hFx.1; omega)
  · skip
    refine g_iconst (pc := 38) X dL_act_38 ?_
    refine g_goto (pc := 39) X 48 dL_act_39 (by decide) ?_
    refine g_istore (pc := 48) (lv' := [(7, _), (6, _), (5, _), (4, _), (3, _), (0, _), (1, _), (2, _)]) X dL_act_48 (by decide) rfl ?_
    refine g_aload_n (pc := 50) (pl := 6) X dL_act_50 rfl ?_
    refine g_iload_n (pc := 51) (pl := 7) X dL_act_51 rfl ?_
    refine gJXi (pc := 52) (n2 := 0) (k2 := 0) X hX hbl hbb cs_L_act_37 (c_L_cell (zl K) D base b L xs hbb hL k (by omega)) rfl hbs trivial rfl ⟨Nat.le_of_ble_eq_true rfl, Nat.le_of_ble_eq_true rfl⟩ dL_act_52 (Nat.le_of_ble_eq_true rfl) rfl rfl (fun v52 H2 hp52 hs52 => ?_)
    obtain ⟨rfl, hg52⟩ := hp52
    refine g_bipush (pc := 55) X dL_act_55 (by decide +kernel) ?_
    refine gJi (pc := 57) (n2 := 0) (k2 := 0) X cs_L_act_43 (c_L_low (zl K) D base v52 20 (by omega) (by omega)) rfl hbs trivial rfl ⟨Nat.le_of_ble_eq_true rfl, Nat.le_of_ble_eq_true rfl⟩ dL_act_57 (Nat.le_of_ble_eq_true rfl) rfl rfl (fun v57 H2 hp57 hs57 => ?_)
    obtain ⟨rfl, ⟨hg57, hl57⟩⟩ := hp57
    by_cases cs60 : v57 < 0 ∨ 17 < v57
    · skip
      refine g_tableOut (pc := 60) X 283 dL_act_60 (by omega) cs60 (by decide) ?_
      refine g_aload_n (pc := 283) (pl := 5) X dL_act_283 rfl ?_
      refine g_iload_n (pc := 284) (pl := 4) X dL_act_284 rfl ?_
      refine g_bipush (pc := 285) X dL_act_285 (by decide +kernel) ?_
      refine gJi (pc := 287) (n2 := 0) (k2 := 0) X cs_L_act_43 (c_L_low (zl K) D base v4 10 (by omega) (by omega)) rfl hbs trivial rfl ⟨Nat.le_of_ble_eq_true rfl, Nat.le_of_ble_eq_true rfl⟩ dL_act_287 (Nat.le_of_ble_eq_true rfl) rfl rfl (fun v287 H2 hp287 hs287 => ?_)
      obtain ⟨rfl, ⟨hg287, hl287⟩⟩ := hp287
      refine gVi (pc := 290) (n2 := 121) (k2 := 4272) X cs_L_act_72 (c_X8_reclaim (zl K) D base x lo m sa sl st ss g n f v287 hq hlo hI (by omega)) rfl hO (by omega) ⟨hA, hls⟩ rfl ⟨(Nat.le_of_ble_eq_true rfl), (Nat.le_of_ble_eq_true rfl)⟩ dL_act_290 (Nat.le_of_ble_eq_true rfl) rfl rfl (fun v290 H2 hp290 hs290 => ?_)
      obtain ⟨hv, sa2, hA2, hFx⟩ := hp290
      subst hv
      refine g_iret (pc := 293) X R hH dL_act_293 ?_
      exact act_ed hm6 hI hQ hIs ⟨hI.rc v287, Qn.rc hI hQ v287⟩ (er_rc hI v287) (rcR_rg hI v287) hA2 (by have := hFx.1; omega)
    · skip
      by_cases cs60_0 : v57 = 0
      · skip
        refine g_tableIn (pc := 60) (off := 88) X 148 dL_act_60 (by omega) (by omega) (by omega) (by rw [show v57 - 0 = 0 by omega]; rfl) (by decide) ?_
        refine g_aload_n (pc := 148) (pl := 5) X dL_act_148 rfl ?_
        refine g_iload_n (pc := 149) (pl := 4) X dL_act_149 rfl ?_
        refine g_iload (pc := 150) (pl := 1) X dL_act_150 rfl ?_
        refine g_iconst (pc := 152) X dL_act_152 ?_
        refine g_iadd (pc := 153) X dL_act_153 ?_
        refine gJi (pc := 154) (n2 := 0) (k2 := 0) X cs_L_act_43 (c_L_low (zl K) D base v4 ((g 0) + 1) (by omega) (by omega)) rfl hbs trivial rfl ⟨Nat.le_of_ble_eq_true rfl, Nat.le_of_ble_eq_true rfl⟩ dL_act_154 (Nat.le_of_ble_eq_true rfl) rfl rfl (fun v154 H2 hp154 hs154 => ?_)
        obtain ⟨rfl, ⟨hg154, hl154⟩⟩ := hp154
        refine g_iload (pc := 157) (pl := 3) X dL_act_157 rfl ?_
        refine g_iconst (pc := 159) X dL_act_159 ?_
        refine gJi (pc := 160) (n2 := 0) (k2 := 0) X cs_L_act_43 (c_L_low (zl K) D base v12 4 (by omega) (by omega)) rfl hbs trivial rfl ⟨Nat.le_of_ble_eq_true rfl, Nat.le_of_ble_eq_true rfl⟩ dL_act_160 (Nat.le_of_ble_eq_true rfl) rfl rfl (fun v160 H2 hp160 hs160 => ?_)
        obtain ⟨rfl, ⟨hg160, hl160⟩⟩ := hp160
        refine gVi (pc := 163) (n2 := 121) (k2 := 4272) X cs_L_act_46 (c_X8_write (zl K) D base x lo m sa sl st ss g n f v154 v160 hq hlo hI (by omega) (by omega)) rfl hO (by omega) ⟨hA, hls⟩ rfl ⟨(Nat.le_of_ble_eq_true rfl), (Nat.le_of_ble_eq_true rfl)⟩ dL_act_163 (Nat.le_of_ble_eq_true rfl) rfl rfl (fun v163 H2 hp163 hs163 => ?_)
        obtain ⟨hv, sa2, hA2, hFx⟩ := hp163
        subst hv
        refine g_iret (pc := 166) X R hH dL_act_166 ?_
        exact act_ed hm6 hI hQ hIs ⟨hI.wr v154 v160, Qn.wr hI hQ v154 v160⟩ (er_wr hI v154 v160) (wrR_rg hI v154 v160) hA2 (by have := hFx.1; omega)
      · skip
        by_cases cs60_1 : v57 = 1
        · skip
          refine g_tableIn (pc := 60) (off := 88) X 148 dL_act_60 (by omega) (by omega) (by omega) (by rw [show v57 - 0 = 1 by omega]; rfl) (by decide) ?_
          refine g_aload_n (pc := 148) (pl := 5) X dL_act_148 rfl ?_
          refine g_iload_n (pc := 149) (pl := 4) X dL_act_149 rfl ?_
          refine g_iload (pc := 150) (pl := 1) X dL_act_150 rfl ?_
          refine g_iconst (pc := 152) X dL_act_152 ?_
          refine g_iadd (pc := 153) X dL_act_153 ?_
          refine gJi (pc := 154) (n2 := 0) (k2 := 0) X cs_L_act_43 (c_L_low (zl K) D base v4 ((g 0) + 1) (by omega) (by omega)) rfl hbs trivial rfl ⟨Nat.le_of_ble_eq_true rfl, Nat.le_of_ble_eq_true rfl⟩ dL_act_154 (Nat.le_of_ble_eq_true rfl) rfl rfl (fun v154 H2 hp154 hs154 => ?_)
          obtain ⟨rfl, ⟨hg154, hl154⟩⟩ := hp154
          refine g_iload (pc := 157) (pl := 3) X dL_act_157 rfl ?_
          refine g_iconst (pc := 159) X dL_act_159 ?_
          refine gJi (pc := 160) (n2 := 0) (k2 := 0) X cs_L_act_43 (c_L_low (zl K) D base v12 4 (by omega) (by omega)) rfl hbs trivial rfl ⟨Nat.le_of_ble_eq_true rfl, Nat.le_of_ble_eq_true rfl⟩ dL_act_160 (Nat.le_of_ble_eq_true rfl) rfl rfl (fun v160 H2 hp160 hs160 => ?_)
          obtain ⟨rfl, ⟨hg160, hl160⟩⟩ := hp160
          refine gVi (pc := 163) (n2 := 121) (k2 := 4272) X cs_L_act_46 (c_X8_write (zl K) D base x lo m sa sl st ss g n f v154 v160 hq hlo hI (by omega) (by omega)) rfl hO (by omega) ⟨hA, hls⟩ rfl ⟨(Nat.le_of_ble_eq_true rfl), (Nat.le_of_ble_eq_true rfl)⟩ dL_act_163 (Nat.le_of_ble_eq_true rfl) rfl rfl (fun v163 H2 hp163 hs163 => ?_)
          obtain ⟨hv, sa2, hA2, hFx⟩ := hp163
          subst hv
          refine g_iret (pc := 166) X R hH dL_act_166 ?_
          exact act_ed hm6 hI hQ hIs ⟨hI.wr v154 v160, Qn.wr hI hQ v154 v160⟩ (er_wr hI v154 v160) (wrR_rg hI v154 v160) hA2 (by have := hFx.1; omega)
        · skip
          by_cases cs60_2 : v57 = 2
          · skip
            refine g_tableIn (pc := 60) (off := 88) X 148 dL_act_60 (by omega) (by omega) (by omega) (by rw [show v57 - 0 = 2 by omega]; rfl) (by decide) ?_
            refine g_aload_n (pc := 148) (pl := 5) X dL_act_148 rfl ?_
            refine g_iload_n (pc := 149) (pl := 4) X dL_act_149 rfl ?_
            refine g_iload (pc := 150) (pl := 1) X dL_act_150 rfl ?_
            refine g_iconst (pc := 152) X dL_act_152 ?_
            refine g_iadd (pc := 153) X dL_act_153 ?_
            refine gJi (pc := 154) (n2 := 0) (k2 := 0) X cs_L_act_43 (c_L_low (zl K) D base v4 ((g 0) + 1) (by omega) (by omega)) rfl hbs trivial rfl ⟨Nat.le_of_ble_eq_true rfl, Nat.le_of_ble_eq_true rfl⟩ dL_act_154 (Nat.le_of_ble_eq_true rfl) rfl rfl (fun v154 H2 hp154 hs154 => ?_)
            obtain ⟨rfl, ⟨hg154, hl154⟩⟩ := hp154
            refine g_iload (pc := 157) (pl := 3) X dL_act_157 rfl ?_
            refine g_iconst (pc := 159) X dL_act_159 ?_
            refine gJi (pc := 160) (n2 := 0) (k2 := 0) X cs_L_act_43 (c_L_low (zl K) D base v12 4 (by omega) (by omega)) rfl hbs trivial rfl ⟨Nat.le_of_ble_eq_true rfl, Nat.le_of_ble_eq_true rfl⟩ dL_act_160 (Nat.le_of_ble_eq_true rfl) rfl rfl (fun v160 H2 hp160 hs160 => ?_)
            obtain ⟨rfl, ⟨hg160, hl160⟩⟩ := hp160
            refine gVi (pc := 163) (n2 := 121) (k2 := 4272) X cs_L_act_46 (c_X8_write (zl K) D base x lo m sa sl st ss g n f v154 v160 hq hlo hI (by omega) (by omega)) rfl hO (by omega) ⟨hA, hls⟩ rfl ⟨(Nat.le_of_ble_eq_true rfl), (Nat.le_of_ble_eq_true rfl)⟩ dL_act_163 (Nat.le_of_ble_eq_true rfl) rfl rfl (fun v163 H2 hp163 hs163 => ?_)
            obtain ⟨hv, sa2, hA2, hFx⟩ := hp163
            subst hv
            refine g_iret (pc := 166) X R hH dL_act_166 ?_
            exact act_ed hm6 hI hQ hIs ⟨hI.wr v154 v160, Qn.wr hI hQ v154 v160⟩ (er_wr hI v154 v160) (wrR_rg hI v154 v160) hA2 (by have := hFx.1; omega)
          · skip
            by_cases cs60_3 : v57 = 3
            · skip
              refine g_tableIn (pc := 60) (off := 88) X 148 dL_act_60 (by omega) (by omega) (by omega) (by rw [show v57 - 0 = 3 by omega]; rfl) (by decide) ?_
              refine g_aload_n (pc := 148) (pl := 5) X dL_act_148 rfl ?_
              refine g_iload_n (pc := 149) (pl := 4) X dL_act_149 rfl ?_
              refine g_iload (pc := 150) (pl := 1) X dL_act_150 rfl ?_
              refine g_iconst (pc := 152) X dL_act_152 ?_
              refine g_iadd (pc := 153) X dL_act_153 ?_
              refine gJi (pc := 154) (n2 := 0) (k2 := 0) X cs_L_act_43 (c_L_low (zl K) D base v4 ((g 0) + 1) (by omega) (by omega)) rfl hbs trivial rfl ⟨Nat.le_of_ble_eq_true rfl, Nat.le_of_ble_eq_true rfl⟩ dL_act_154 (Nat.le_of_ble_eq_true rfl) rfl rfl (fun v154 H2 hp154 hs154 => ?_)
              obtain ⟨rfl, ⟨hg154, hl154⟩⟩ := hp154
              refine g_iload (pc := 157) (pl := 3) X dL_act_157 rfl ?_
              refine g_iconst (pc := 159) X dL_act_159 ?_
              refine gJi (pc := 160) (n2 := 0) (k2 := 0) X cs_L_act_43 (c_L_low (zl K) D base v12 4 (by omega) (by omega)) rfl hbs trivial rfl ⟨Nat.le_of_ble_eq_true rfl, Nat.le_of_ble_eq_true rfl⟩ dL_act_160 (Nat.le_of_ble_eq_true rfl) rfl rfl (fun v160 H2 hp160 hs160 => ?_)
              obtain ⟨rfl, ⟨hg160, hl160⟩⟩ := hp160
              refine gVi (pc := 163) (n2 := 121) (k2 := 4272) X cs_L_act_46 (c_X8_write (zl K) D base x lo m sa sl st ss g n f v154 v160 hq hlo hI (by omega) (by omega)) rfl hO (by omega) ⟨hA, hls⟩ rfl ⟨(Nat.le_of_ble_eq_true rfl), (Nat.le_of_ble_eq_true rfl)⟩ dL_act_163 (Nat.le_of_ble_eq_true rfl) rfl rfl (fun v163 H2 hp163 hs163 => ?_)
              obtain ⟨hv, sa2, hA2, hFx⟩ := hp163
              subst hv
              refine g_iret (pc := 166) X R hH dL_act_166 ?_
              exact act_ed hm6 hI hQ hIs ⟨hI.wr v154 v160, Qn.wr hI hQ v154 v160⟩ (er_wr hI v154 v160) (wrR_rg hI v154 v160) hA2 (by have := hFx.1; omega)
            · skip
              by_cases cs60_4 : v57 = 4
              · skip
                refine g_tableIn (pc := 60) (off := 88) X 148 dL_act_60 (by omega) (by omega) (by omega) (by rw [show v57 - 0 = 4 by omega]; rfl) (by decide) ?_
                refine g_aload_n (pc := 148) (pl := 5) X dL_act_148 rfl ?_
                refine g_iload_n (pc := 149) (pl := 4) X dL_act_149 rfl ?_
                refine g_iload (pc := 150) (pl := 1) X dL_act_150 rfl ?_
                refine g_iconst (pc := 152) X dL_act_152 ?_
                refine g_iadd (pc := 153) X dL_act_153 ?_
                refine gJi (pc := 154) (n2 := 0) (k2 := 0) X cs_L_act_43 (c_L_low (zl K) D base v4 ((g 0) + 1) (by omega) (by omega)) rfl hbs trivial rfl ⟨Nat.le_of_ble_eq_true rfl, Nat.le_of_ble_eq_true rfl⟩ dL_act_154 (Nat.le_of_ble_eq_true rfl) rfl rfl (fun v154 H2 hp154 hs154 => ?_)
                obtain ⟨rfl, ⟨hg154, hl154⟩⟩ := hp154
                refine g_iload (pc := 157) (pl := 3) X dL_act_157 rfl ?_
                refine g_iconst (pc := 159) X dL_act_159 ?_
                refine gJi (pc := 160) (n2 := 0) (k2 := 0) X cs_L_act_43 (c_L_low (zl K) D base v12 4 (by omega) (by omega)) rfl hbs trivial rfl ⟨Nat.le_of_ble_eq_true rfl, Nat.le_of_ble_eq_true rfl⟩ dL_act_160 (Nat.le_of_ble_eq_true rfl) rfl rfl (fun v160 H2 hp160 hs160 => ?_)
                obtain ⟨rfl, ⟨hg160, hl160⟩⟩ := hp160
                refine gVi (pc := 163) (n2 := 121) (k2 := 4272) X cs_L_act_46 (c_X8_write (zl K) D base x lo m sa sl st ss g n f v154 v160 hq hlo hI (by omega) (by omega)) rfl hO (by omega) ⟨hA, hls⟩ rfl ⟨(Nat.le_of_ble_eq_true rfl), (Nat.le_of_ble_eq_true rfl)⟩ dL_act_163 (Nat.le_of_ble_eq_true rfl) rfl rfl (fun v163 H2 hp163 hs163 => ?_)
                obtain ⟨hv, sa2, hA2, hFx⟩ := hp163
                subst hv
                refine g_iret (pc := 166) X R hH dL_act_166 ?_
                exact act_ed hm6 hI hQ hIs ⟨hI.wr v154 v160, Qn.wr hI hQ v154 v160⟩ (er_wr hI v154 v160) (wrR_rg hI v154 v160) hA2 (by have := hFx.1; omega)
              · skip
                by_cases cs60_5 : v57 = 5
                · skip
                  refine g_tableIn (pc := 60) (off := 88) X 148 dL_act_60 (by omega) (by omega) (by omega) (by rw [show v57 - 0 = 5 by omega]; rfl) (by decide) ?_
                  refine g_aload_n (pc := 148) (pl := 5) X dL_act_148 rfl ?_
                  refine g_iload_n (pc := 149) (pl := 4) X dL_act_149 rfl ?_
                  refine g_iload (pc := 150) (pl := 1) X dL_act_150 rfl ?_
                  refine g_iconst (pc := 152) X dL_act_152 ?_
                  refine g_iadd (pc := 153) X dL_act_153 ?_
                  refine gJi (pc := 154) (n2 := 0) (k2 := 0) X cs_L_act_43 (c_L_low (zl K) D base v4 ((g 0) + 1) (by omega) (by omega)) rfl hbs trivial rfl ⟨Nat.le_of_ble_eq_true rfl, Nat.le_of_ble_eq_true rfl⟩ dL_act_154 (Nat.le_of_ble_eq_true rfl) rfl rfl (fun v154 H2 hp154 hs154 => ?_)
                  obtain ⟨rfl, ⟨hg154, hl154⟩⟩ := hp154
                  refine g_iload (pc := 157) (pl := 3) X dL_act_157 rfl ?_
                  refine g_iconst (pc := 159) X dL_act_159 ?_
                  refine gJi (pc := 160) (n2 := 0) (k2 := 0) X cs_L_act_43 (c_L_low (zl K) D base v12 4 (by omega) (by omega)) rfl hbs trivial rfl ⟨Nat.le_of_ble_eq_true rfl, Nat.le_of_ble_eq_true rfl⟩ dL_act_160 (Nat.le_of_ble_eq_true rfl) rfl rfl (fun v160 H2 hp160 hs160 => ?_)
                  obtain ⟨rfl, ⟨hg160, hl160⟩⟩ := hp160
                  refine gVi (pc := 163) (n2 := 121) (k2 := 4272) X cs_L_act_46 (c_X8_write (zl K) D base x lo m sa sl st ss g n f v154 v160 hq hlo hI (by omega) (by omega)) rfl hO (by omega) ⟨hA, hls⟩ rfl ⟨(Nat.le_of_ble_eq_true rfl), (Nat.le_of_ble_eq_true rfl)⟩ dL_act_163 (Nat.le_of_ble_eq_true rfl) rfl rfl (fun v163 H2 hp163 hs163 => ?_)
                  obtain ⟨hv, sa2, hA2, hFx⟩ := hp163
                  subst hv
                  refine g_iret (pc := 166) X R hH dL_act_166 ?_
                  exact act_ed hm6 hI hQ hIs ⟨hI.wr v154 v160, Qn.wr hI hQ v154 v160⟩ (er_wr hI v154 v160) (wrR_rg hI v154 v160) hA2 (by have := hFx.1; omega)
                · skip
                  by_cases cs60_6 : v57 = 6
                  · skip
                    refine g_tableIn (pc := 60) (off := 88) X 148 dL_act_60 (by omega) (by omega) (by omega) (by rw [show v57 - 0 = 6 by omega]; rfl) (by decide) ?_
                    refine g_aload_n (pc := 148) (pl := 5) X dL_act_148 rfl ?_
                    refine g_iload_n (pc := 149) (pl := 4) X dL_act_149 rfl ?_
                    refine g_iload (pc := 150) (pl := 1) X dL_act_150 rfl ?_
                    refine g_iconst (pc := 152) X dL_act_152 ?_
                    refine g_iadd (pc := 153) X dL_act_153 ?_
                    refine gJi (pc := 154) (n2 := 0) (k2 := 0) X cs_L_act_43 (c_L_low (zl K) D base v4 ((g 0) + 1) (by omega) (by omega)) rfl hbs trivial rfl ⟨Nat.le_of_ble_eq_true rfl, Nat.le_of_ble_eq_true rfl⟩ dL_act_154 (Nat.le_of_ble_eq_true rfl) rfl rfl (fun v154 H2 hp154 hs154 => ?_)
                    obtain ⟨rfl, ⟨hg154, hl154⟩⟩ := hp154
                    refine g_iload (pc := 157) (pl := 3) X dL_act_157 rfl ?_
                    refine g_iconst (pc := 159) X dL_act_159 ?_
                    refine gJi (pc := 160) (n2 := 0) (k2 := 0) X cs_L_act_43 (c_L_low (zl K) D base v12 4 (by omega) (by omega)) rfl hbs trivial rfl ⟨Nat.le_of_ble_eq_true rfl, Nat.le_of_ble_eq_true rfl⟩ dL_act_160 (Nat.le_of_ble_eq_true rfl) rfl rfl (fun v160 H2 hp160 hs160 => ?_)
                    obtain ⟨rfl, ⟨hg160, hl160⟩⟩ := hp160
                    refine gVi (pc := 163) (n2 := 121) (k2 := 4272) X cs_L_act_46 (c_X8_write (zl K) D base x lo m sa sl st ss g n f v154 v160 hq hlo hI (by omega) (by omega)) rfl hO (by omega) ⟨hA, hls⟩ rfl ⟨(Nat.le_of_ble_eq_true rfl), (Nat.le_of_ble_eq_true rfl)⟩ dL_act_163 (Nat.le_of_ble_eq_true rfl) rfl rfl (fun v163 H2 hp163 hs163 => ?_)
                    obtain ⟨hv, sa2, hA2, hFx⟩ := hp163
                    subst hv
                    refine g_iret (pc := 166) X R hH dL_act_166 ?_
                    exact act_ed hm6 hI hQ hIs ⟨hI.wr v154 v160, Qn.wr hI hQ v154 v160⟩ (er_wr hI v154 v160) (wrR_rg hI v154 v160) hA2 (by have := hFx.1; omega)
                  · skip
                    by_cases cs60_7 : v57 = 7
                    · skip
                      refine g_tableIn (pc := 60) (off := 88) X 148 dL_act_60 (by omega) (by omega) (by omega) (by rw [show v57 - 0 = 7 by omega]; rfl) (by decide) ?_
                      refine g_aload_n (pc := 148) (pl := 5) X dL_act_148 rfl ?_
                      refine g_iload_n (pc := 149) (pl := 4) X dL_act_149 rfl ?_
                      refine g_iload (pc := 150) (pl := 1) X dL_act_150 rfl ?_
                      refine g_iconst (pc := 152) X dL_act_152 ?_
                      refine g_iadd (pc := 153) X dL_act_153 ?_
                      refine gJi (pc := 154) (n2 := 0) (k2 := 0) X cs_L_act_43 (c_L_low (zl K) D base v4 ((g 0) + 1) (by omega) (by omega)) rfl hbs trivial rfl ⟨Nat.le_of_ble_eq_true rfl, Nat.le_of_ble_eq_true rfl⟩ dL_act_154 (Nat.le_of_ble_eq_true rfl) rfl rfl (fun v154 H2 hp154 hs154 => ?_)
                      obtain ⟨rfl, ⟨hg154, hl154⟩⟩ := hp154
                      refine g_iload (pc := 157) (pl := 3) X dL_act_157 rfl ?_
                      refine g_iconst (pc := 159) X dL_act_159 ?_
                      refine gJi (pc := 160) (n2 := 0) (k2 := 0) X cs_L_act_43 (c_L_low (zl K) D base v12 4 (by omega) (by omega)) rfl hbs trivial rfl ⟨Nat.le_of_ble_eq_true rfl, Nat.le_of_ble_eq_true rfl⟩ dL_act_160 (Nat.le_of_ble_eq_true rfl) rfl rfl (fun v160 H2 hp160 hs160 => ?_)
                      obtain ⟨rfl, ⟨hg160, hl160⟩⟩ := hp160
                      refine gVi (pc := 163) (n2 := 121) (k2 := 4272) X cs_L_act_46 (c_X8_write (zl K) D base x lo m sa sl st ss g n f v154 v160 hq hlo hI (by omega) (by omega)) rfl hO (by omega) ⟨hA, hls⟩ rfl ⟨(Nat.le_of_ble_eq_true rfl), (Nat.le_of_ble_eq_true rfl)⟩ dL_act_163 (Nat.le_of_ble_eq_true rfl) rfl rfl (fun v163 H2 hp163 hs163 => ?_)
                      obtain ⟨hv, sa2, hA2, hFx⟩ := hp163
                      subst hv
                      refine g_iret (pc := 166) X R hH dL_act_166 ?_
                      exact act_ed hm6 hI hQ hIs ⟨hI.wr v154 v160, Qn.wr hI hQ v154 v160⟩ (er_wr hI v154 v160) (wrR_rg hI v154 v160) hA2 (by have := hFx.1; omega)
                    · skip
                      by_cases cs60_8 : v57 = 8
                      · skip
                        refine g_tableIn (pc := 60) (off := 107) X 167 dL_act_60 (by omega) (by omega) (by omega) (by rw [show v57 - 0 = 8 by omega]; rfl) (by decide) ?_
                        refine g_aload_n (pc := 167) (pl := 5) X dL_act_167 rfl ?_
                        refine g_iload (pc := 168) (pl := 0) X dL_act_168 rfl ?_
                        refine g_iload (pc := 170) (pl := 0) X dL_act_170 rfl ?_
                        refine g_iload (pc := 172) (pl := 3) X dL_act_172 rfl ?_
                        refine g_iconst (pc := 174) X dL_act_174 ?_
                        refine gJi (pc := 175) (n2 := 0) (k2 := 0) X cs_L_act_43 (c_L_low (zl K) D base v12 4 (by omega) (by omega)) rfl hbs trivial rfl ⟨Nat.le_of_ble_eq_true rfl, Nat.le_of_ble_eq_true rfl⟩ dL_act_175 (Nat.le_of_ble_eq_true rfl) rfl rfl (fun v175 H2 hp175 hs175 => ?_)
                        obtain ⟨rfl, ⟨hg175, hl175⟩⟩ := hp175
                        refine g_iadd (pc := 178) X dL_act_178 ?_
                        refine gVi (pc := 179) (n2 := 121) (k2 := 4272) X cs_L_act_49 (c_X8_erase (zl K) D base x lo m sa sl st ss g n f 0 (0 + v175) hq hlo hI (by omega) (by omega)) rfl hO (by omega) ⟨hA, hls⟩ rfl ⟨(Nat.le_of_ble_eq_true rfl), (Nat.le_of_ble_eq_true rfl)⟩ dL_act_179 (Nat.le_of_ble_eq_true rfl) rfl rfl (fun v179 H2 hp179 hs179 => ?_)
                        obtain ⟨hv, sa2, hA2, hFx⟩ := hp179
                        subst hv
                        refine g_iret (pc := 182) X R hH dL_act_182 ?_
                        exact act_ed hm6 hI hQ hIs ⟨hI.er 0 (0 + v175), Qn.er hI hQ 0 (0 + v175)⟩ (er_er hI 0 (0 + v175)) (erR_rg (g := g) 0 (0 + v175)) hA2 (by have := hFx.1; omega)
                      · skip
                        by_cases cs60_9 : v57 = 9
                        · skip
                          refine g_tableIn (pc := 60) (off := 123) X 183 dL_act_60 (by omega) (by omega) (by omega) (by rw [show v57 - 0 = 9 by omega]; rfl) (by decide) ?_
                          refine g_aload_n (pc := 183) (pl := 5) X dL_act_183 rfl ?_
                          refine g_iload (pc := 184) (pl := 0) X dL_act_184 rfl ?_
                          refine g_iload (pc := 186) (pl := 0) X dL_act_186 rfl ?_
                          refine g_iload (pc := 188) (pl := 3) X dL_act_188 rfl ?_
                          refine g_iconst (pc := 190) X dL_act_190 ?_
                          refine gJi (pc := 191) (n2 := 0) (k2 := 0) X cs_L_act_43 (c_L_low (zl K) D base v12 4 (by omega) (by omega)) rfl hbs trivial rfl ⟨Nat.le_of_ble_eq_true rfl, Nat.le_of_ble_eq_true rfl⟩ dL_act_191 (Nat.le_of_ble_eq_true rfl) rfl rfl (fun v191 H2 hp191 hs191 => ?_)
                          obtain ⟨rfl, ⟨hg191, hl191⟩⟩ := hp191
                          refine g_iadd (pc := 194) X dL_act_194 ?_
                          refine g_iload (pc := 195) (pl := 2) X dL_act_195 rfl ?_
                          refine g_iload (pc := 197) (pl := 1) X dL_act_197 rfl ?_
                          refine g_iconst (pc := 199) X dL_act_199 ?_
                          refine g_iadd (pc := 200) X dL_act_200 ?_
                          refine gJi (pc := 201) (n2 := 0) (k2 := 0) X cs_L_act_43 (c_L_low (zl K) D base v21 ((g 0) + 1) (by omega) (by omega)) rfl hbs trivial rfl ⟨Nat.le_of_ble_eq_true rfl, Nat.le_of_ble_eq_true rfl⟩ dL_act_201 (Nat.le_of_ble_eq_true rfl) rfl rfl (fun v201 H2 hp201 hs201 => ?_)
                          obtain ⟨rfl, ⟨hg201, hl201⟩⟩ := hp201
                          refine gVi (pc := 204) (n2 := 121) (k2 := 4272) X cs_L_act_52 (c_X8_move (zl K) D base x lo m sa sl st ss g n f 0 (0 + v191) v201 hq hlo hI (by omega) (by omega) (by omega)) rfl hO (by omega) ⟨hA, hls⟩ rfl ⟨(Nat.le_of_ble_eq_true rfl), (Nat.le_of_ble_eq_true rfl)⟩ dL_act_204 (Nat.le_of_ble_eq_true rfl) rfl rfl (fun v204 H2 hp204 hs204 => ?_)
                          obtain ⟨hv, sa2, hA2, hFx⟩ := hp204
                          subst hv
                          refine g_iret (pc := 207) X R hH dL_act_207 ?_
                          exact act_ed hm6 hI hQ hIs ⟨hI.mvs 0 (0 + v191) v201, Qn.mvs hI hQ 0 (0 + v191) v201⟩ (er_mvs hI 0 (0 + v191) v201) (mvR_rg hI 0 (0 + v191) v201) hA2 (by have := hFx.1; omega)
                        · skip
                          by_cases cs60_10 : v57 = 10
                          · skip
                            refine g_tableIn (pc := 60) (off := 123) X 183 dL_act_60 (by omega) (by omega) (by omega) (by rw [show v57 - 0 = 10 by omega]; rfl) (by decide) ?_
                            refine g_aload_n (pc := 183) (pl := 5) X dL_act_183 rfl ?_
                            refine g_iload (pc := 184) (pl := 0) X dL_act_184 rfl ?_
                            refine g_iload (pc := 186) (pl := 0) X dL_act_186 rfl ?_
                            refine g_iload (pc := 188) (pl := 3) X dL_act_188 rfl ?_
                            refine g_iconst (pc := 190) X dL_act_190 ?_
                            refine gJi (pc := 191) (n2 := 0) (k2 := 0) X cs_L_act_43 (c_L_low (zl K) D base v12 4 (by omega) (by omega)) rfl hbs trivial rfl ⟨Nat.le_of_ble_eq_true rfl, Nat.le_of_ble_eq_true rfl⟩ dL_act_191 (Nat.le_of_ble_eq_true rfl) rfl rfl (fun v191 H2 hp191 hs191 => ?_)
                            obtain ⟨rfl, ⟨hg191, hl191⟩⟩ := hp191
                            refine g_iadd (pc := 194) X dL_act_194 ?_
                            refine g_iload (pc := 195) (pl := 2) X dL_act_195 rfl ?_
                            refine g_iload (pc := 197) (pl := 1) X dL_act_197 rfl ?_
                            refine g_iconst (pc := 199) X dL_act_199 ?_
                            refine g_iadd (pc := 200) X dL_act_200 ?_
                            refine gJi (pc := 201) (n2 := 0) (k2 := 0) X cs_L_act_43 (c_L_low (zl K) D base v21 ((g 0) + 1) (by omega) (by omega)) rfl hbs trivial rfl ⟨Nat.le_of_ble_eq_true rfl, Nat.le_of_ble_eq_true rfl⟩ dL_act_201 (Nat.le_of_ble_eq_true rfl) rfl rfl (fun v201 H2 hp201 hs201 => ?_)
                            obtain ⟨rfl, ⟨hg201, hl201⟩⟩ := hp201
                            refine gVi (pc := 204) (n2 := 121) (k2 := 4272) X cs_L_act_52 (c_X8_move (zl K) D base x lo m sa sl st ss g n f 0 (0 + v191) v201 hq hlo hI (by omega) (by omega) (by omega)) rfl hO (by omega) ⟨hA, hls⟩ rfl ⟨(Nat.le_of_ble_eq_true rfl), (Nat.le_of_ble_eq_true rfl)⟩ dL_act_204 (Nat.le_of_ble_eq_true rfl) rfl rfl (fun v204 H2 hp204 hs204 => ?_)
                            obtain ⟨hv, sa2, hA2, hFx⟩ := hp204
                            subst hv
                            refine g_iret (pc := 207) X R hH dL_act_207 ?_
                            exact act_ed hm6 hI hQ hIs ⟨hI.mvs 0 (0 + v191) v201, Qn.mvs hI hQ 0 (0 + v191) v201⟩ (er_mvs hI 0 (0 + v191) v201) (mvR_rg hI 0 (0 + v191) v201) hA2 (by have := hFx.1; omega)
                          · skip
                            by_cases cs60_11 : v57 = 11
                            · skip
                              refine g_tableIn (pc := 60) (off := 148) X 208 dL_act_60 (by omega) (by omega) (by omega) (by rw [show v57 - 0 = 11 by omega]; rfl) (by decide) ?_
                              refine g_aload_n (pc := 208) (pl := 5) X dL_act_208 rfl ?_
                              refine g_iload (pc := 209) (pl := 0) X dL_act_209 rfl ?_
                              refine g_iload (pc := 211) (pl := 0) X dL_act_211 rfl ?_
                              refine g_iload (pc := 213) (pl := 3) X dL_act_213 rfl ?_
                              refine g_iconst (pc := 215) X dL_act_215 ?_
                              refine gJi (pc := 216) (n2 := 0) (k2 := 0) X cs_L_act_43 (c_L_low (zl K) D base v12 5 (by omega) (by omega)) rfl hbs trivial rfl ⟨Nat.le_of_ble_eq_true rfl, Nat.le_of_ble_eq_true rfl⟩ dL_act_216 (Nat.le_of_ble_eq_true rfl) rfl rfl (fun v216 H2 hp216 hs216 => ?_)
                              obtain ⟨rfl, ⟨hg216, hl216⟩⟩ := hp216
                              refine g_iadd (pc := 219) X dL_act_219 ?_
                              refine gVi (pc := 220) (n2 := 121) (k2 := 4272) X cs_L_act_56 (c_X8_note (zl K) D base x lo m sa sl st ss g n f 0 (0 + v216) hq hlo hI (by omega) (by omega)) rfl hO (by omega) ⟨hA, hls⟩ rfl ⟨(Nat.le_of_ble_eq_true rfl), (Nat.le_of_ble_eq_true rfl)⟩ dL_act_220 (Nat.le_of_ble_eq_true rfl) rfl rfl (fun v220 H2 hp220 hs220 => ?_)
                              obtain ⟨hv, sa2, hA2, hFx⟩ := hp220
                              subst hv
                              refine g_iret (pc := 223) X R hH dL_act_223 ?_
                              exact act_ed hm6 hI hQ hIs ⟨hI.nt' 0 (0 + v216), Qn.nt hI hQ 0 (0 + v216)⟩ (er_nt hI 0 (0 + v216)) (ntR_rg hI 0 (0 + v216)) hA2 (by have := hFx.1; omega)
                            · skip
                              by_cases cs60_12 : v57 = 12
                              · skip
                                refine g_tableIn (pc := 60) (off := 148) X 208 dL_act_60 (by omega) (by omega) (by omega) (by rw [show v57 - 0 = 12 by omega]; rfl) (by decide) ?_
                                refine g_aload_n (pc := 208) (pl := 5) X dL_act_208 rfl ?_
                                refine g_iload (pc := 209) (pl := 0) X dL_act_209 rfl ?_
                                refine g_iload (pc := 211) (pl := 0) X dL_act_211 rfl ?_
                                refine g_iload (pc := 213) (pl := 3) X dL_act_213 rfl ?_
                                refine g_iconst (pc := 215) X dL_act_215 ?_
                                refine gJi (pc := 216) (n2 := 0) (k2 := 0) X cs_L_act_43 (c_L_low (zl K) D base v12 5 (by omega) (by omega)) rfl hbs trivial rfl ⟨Nat.le_of_ble_eq_true rfl, Nat.le_of_ble_eq_true rfl⟩ dL_act_216 (Nat.le_of_ble_eq_true rfl) rfl rfl (fun v216 H2 hp216 hs216 => ?_)
                                obtain ⟨rfl, ⟨hg216, hl216⟩⟩ := hp216
                                refine g_iadd (pc := 219) X dL_act_219 ?_
                                refine gVi (pc := 220) (n2 := 121) (k2 := 4272) X cs_L_act_56 (c_X8_note (zl K) D base x lo m sa sl st ss g n f 0 (0 + v216) hq hlo hI (by omega) (by omega)) rfl hO (by omega) ⟨hA, hls⟩ rfl ⟨(Nat.le_of_ble_eq_true rfl), (Nat.le_of_ble_eq_true rfl)⟩ dL_act_220 (Nat.le_of_ble_eq_true rfl) rfl rfl (fun v220 H2 hp220 hs220 => ?_)
                                obtain ⟨hv, sa2, hA2, hFx⟩ := hp220
                                subst hv
                                refine g_iret (pc := 223) X R hH dL_act_223 ?_
                                exact act_ed hm6 hI hQ hIs ⟨hI.nt' 0 (0 + v216), Qn.nt hI hQ 0 (0 + v216)⟩ (er_nt hI 0 (0 + v216)) (ntR_rg hI 0 (0 + v216)) hA2 (by have := hFx.1; omega)
                              · skip
                                by_cases cs60_13 : v57 = 13
                                · skip
                                  refine g_tableIn (pc := 60) (off := 148) X 208 dL_act_60 (by omega) (by omega) (by omega) (by rw [show v57 - 0 = 13 by omega]; rfl) (by decide) ?_
                                  refine g_aload_n (pc := 208) (pl := 5) X dL_act_208 rfl ?_
                                  refine g_iload (pc := 209) (pl := 0) X dL_act_209 rfl ?_
                                  refine g_iload (pc := 211) (pl := 0) X dL_act_211 rfl ?_
                                  refine g_iload (pc := 213) (pl := 3) X dL_act_213 rfl ?_
                                  refine g_iconst (pc := 215) X dL_act_215 ?_
                                  refine gJi (pc := 216) (n2 := 0) (k2 := 0) X cs_L_act_43 (c_L_low (zl K) D base v12 5 (by omega) (by omega)) rfl hbs trivial rfl ⟨Nat.le_of_ble_eq_true rfl, Nat.le_of_ble_eq_true rfl⟩ dL_act_216 (Nat.le_of_ble_eq_true rfl) rfl rfl (fun v216 H2 hp216 hs216 => ?_)
                                  obtain ⟨rfl, ⟨hg216, hl216⟩⟩ := hp216
                                  refine g_iadd (pc := 219) X dL_act_219 ?_
                                  refine gVi (pc := 220) (n2 := 121) (k2 := 4272) X cs_L_act_56 (c_X8_note (zl K) D base x lo m sa sl st ss g n f 0 (0 + v216) hq hlo hI (by omega) (by omega)) rfl hO (by omega) ⟨hA, hls⟩ rfl ⟨(Nat.le_of_ble_eq_true rfl), (Nat.le_of_ble_eq_true rfl)⟩ dL_act_220 (Nat.le_of_ble_eq_true rfl) rfl rfl (fun v220 H2 hp220 hs220 => ?_)
                                  obtain ⟨hv, sa2, hA2, hFx⟩ := hp220
                                  subst hv
                                  refine g_iret (pc := 223) X R hH dL_act_223 ?_
                                  exact act_ed hm6 hI hQ hIs ⟨hI.nt' 0 (0 + v216), Qn.nt hI hQ 0 (0 + v216)⟩ (er_nt hI 0 (0 + v216)) (ntR_rg hI 0 (0 + v216)) hA2 (by have := hFx.1; omega)
                                · skip
                                  by_cases cs60_14 : v57 = 14
                                  · skip
                                    refine g_tableIn (pc := 60) (off := 164) X 224 dL_act_60 (by omega) (by omega) (by omega) (by rw [show v57 - 0 = 14 by omega]; rfl) (by decide) ?_
                                    refine g_aload_n (pc := 224) (pl := 5) X dL_act_224 rfl ?_
                                    refine g_iload_n (pc := 225) (pl := 4) X dL_act_225 rfl ?_
                                    refine g_bipush (pc := 226) X dL_act_226 (by decide +kernel) ?_
                                    refine gJi (pc := 228) (n2 := 0) (k2 := 0) X cs_L_act_43 (c_L_low (zl K) D base v4 8 (by omega) (by omega)) rfl hbs trivial rfl ⟨Nat.le_of_ble_eq_true rfl, Nat.le_of_ble_eq_true rfl⟩ dL_act_228 (Nat.le_of_ble_eq_true rfl) rfl rfl (fun v228 H2 hp228 hs228 => ?_)
                                    obtain ⟨rfl, ⟨hg228, hl228⟩⟩ := hp228
                                    refine gVi (pc := 231) (n2 := 121) (k2 := 4272) X cs_L_act_59 (c_X8_reply (zl K) D base x lo m sa sl st ss g n f v228 hq hlo hI (by omega)) rfl hO (by omega) ⟨hA, hls⟩ rfl ⟨(Nat.le_of_ble_eq_true rfl), (Nat.le_of_ble_eq_true rfl)⟩ dL_act_231 (Nat.le_of_ble_eq_true rfl) rfl rfl (fun v231 H2 hp231 hs231 => ?_)
                                    obtain ⟨hv, sa2, hA2, hFx⟩ := hp231
                                    subst hv
                                    refine g_iret (pc := 234) X R hH dL_act_234 ?_
                                    exact act_ed hm6 hI hQ hIs ⟨hI.rp v228, Qn.rp hI hQ v228⟩ (er_rp hI v228) (rpR_rg hI v228) hA2 (by have := hFx.1; omega)
                                  · skip
                                    by_cases cs60_15 : v57 = 15
                                    · skip
                                      refine g_tableIn (pc := 60) (off := 175) X 235 dL_act_60 (by omega) (by omega) (by omega) (by rw [show v57 - 0 = 15 by omega]; rfl) (by decide) ?_
                                      refine g_iload (pc := 235) (pl := 3) X dL_act_235 rfl ?_
                                      refine g_iconst (pc := 237) X dL_act_237 ?_
                                      refine gJi (pc := 238) (n2 := 0) (k2 := 0) X cs_L_act_43 (c_L_low (zl K) D base v12 2 (by omega) (by omega)) rfl hbs trivial rfl ⟨Nat.le_of_ble_eq_true rfl, Nat.le_of_ble_eq_true rfl⟩ dL_act_238 (Nat.le_of_ble_eq_true rfl) rfl rfl (fun v238 H2 hp238 hs238 => ?_)
                                      obtain ⟨rfl, ⟨hg238, hl238⟩⟩ := hp238
                                      refine g_if_ne (pc := 241) X 257 dL_act_241 (by decide) (by omega) (fun c241 => ?_) (fun c241 => ?_)
                                      · skip
                                        refine g_iconst (pc := 257) X dL_act_257 ?_
                                        refine G.widen (n' := 121) (k' := 4272) (by omega) (by omega) ?_
                                        refine g_iret (pc := 258) X R hH dL_act_258 ?_
                                        exact ⟨m, sa, st, g, hA, ⟨hI, hQ⟩, hIs, fun z => ⟨rfl, rfl⟩, by omega, hls⟩
                                      · skip
                                        refine g_aload_n (pc := 244) (pl := 5) X dL_act_244 rfl ?_
                                        refine g_iload_n (pc := 245) (pl := 4) X dL_act_245 rfl ?_
                                        refine g_bipush (pc := 246) X dL_act_246 (by decide +kernel) ?_
                                        refine gJi (pc := 248) (n2 := 0) (k2 := 0) X cs_L_act_43 (c_L_low (zl K) D base v4 8 (by omega) (by omega)) rfl hbs trivial rfl ⟨Nat.le_of_ble_eq_true rfl, Nat.le_of_ble_eq_true rfl⟩ dL_act_248 (Nat.le_of_ble_eq_true rfl) rfl rfl (fun v248 H2 hp248 hs248 => ?_)
                                        obtain ⟨rfl, ⟨hg248, hl248⟩⟩ := hp248
                                        refine gVi (pc := 251) (n2 := 121) (k2 := 4272) X cs_L_act_62 (c_X8_drop (zl K) D base x lo m sa sl st ss g n f v248 hq hlo hI (by omega)) rfl hO (by omega) ⟨hA, hls⟩ rfl ⟨(Nat.le_of_ble_eq_true rfl), (Nat.le_of_ble_eq_true rfl)⟩ dL_act_251 (Nat.le_of_ble_eq_true rfl) rfl rfl (fun v251 H2 hp251 hs251 => ?_)
                                        obtain ⟨hv, sa2, hA2, hFx⟩ := hp251
                                        subst hv
                                        refine g_goto (pc := 254) X 258 dL_act_254 (by decide) ?_
                                        refine g_iret (pc := 258) X R hH dL_act_258 ?_
                                        exact act_ed hm6 hI hQ hIs ⟨hI.dp v248, Qn.dp hI hQ v248⟩ (er_dp hI v248) (dpR_rg (g := g) v248) hA2 (by have := hFx.1; omega)
                                    · skip
                                      by_cases cs60_16 : v57 = 16
                                      · skip
                                        refine g_tableIn (pc := 60) (off := 199) X 259 dL_act_60 (by omega) (by omega) (by omega) (by rw [show v57 - 0 = 16 by omega]; rfl) (by decide) ?_
                                        refine g_aload_n (pc := 259) (pl := 5) X dL_act_259 rfl ?_
                                        refine g_iload_n (pc := 260) (pl := 4) X dL_act_260 rfl ?_
                                        refine g_iconst (pc := 261) X dL_act_261 ?_
                                        refine gJi (pc := 262) (n2 := 0) (k2 := 0) X cs_L_act_43 (c_L_low (zl K) D base v4 3 (by omega) (by omega)) rfl hbs trivial rfl ⟨Nat.le_of_ble_eq_true rfl, Nat.le_of_ble_eq_true rfl⟩ dL_act_262 (Nat.le_of_ble_eq_true rfl) rfl rfl (fun v262 H2 hp262 hs262 => ?_)
                                        obtain ⟨rfl, ⟨hg262, hl262⟩⟩ := hp262
                                        refine g_iconst (pc := 265) X dL_act_265 ?_
                                        refine g_iload (pc := 266) (pl := 3) X dL_act_266 rfl ?_
                                        refine g_bipush (pc := 268) X dL_act_268 (by decide +kernel) ?_
                                        refine gJi (pc := 270) (n2 := 0) (k2 := 0) X cs_L_act_43 (c_L_low (zl K) D base v12 9 (by omega) (by omega)) rfl hbs trivial rfl ⟨Nat.le_of_ble_eq_true rfl, Nat.le_of_ble_eq_true rfl⟩ dL_act_270 (Nat.le_of_ble_eq_true rfl) rfl rfl (fun v270 H2 hp270 hs270 => ?_)
                                        obtain ⟨rfl, ⟨hg270, hl270⟩⟩ := hp270
                                        refine g_iadd (pc := 273) X dL_act_273 ?_
                                        refine gVi (pc := 274) (n2 := 121) (k2 := 4272) X cs_L_act_65 (c_X8_set (zl K) D base x lo m sa sl st ss g n f v262 (1 + v270) hq hlo hI (by omega) (by omega)) rfl hO (by omega) ⟨hA, hls⟩ rfl ⟨(Nat.le_of_ble_eq_true rfl), (Nat.le_of_ble_eq_true rfl)⟩ dL_act_274 (Nat.le_of_ble_eq_true rfl) rfl rfl (fun v274 H2 hp274 hs274 => ?_)
                                        obtain ⟨hv, sa2, hA2, hFx⟩ := hp274
                                        subst hv
                                        refine g_iret (pc := 277) X R hH dL_act_277 ?_
                                        exact act_ed hm6 hI hQ hIs ⟨hI.st v262 (1 + v270), Qn.st hQ v262 (1 + v270)⟩ (er_st hI v262 (1 + v270)) (setR_rg hI v262 (1 + v270)) hA2 (by have := hFx.1; omega)
                                      · skip
                                        have cs60_17 : v57 = 17 := by omega
                                        refine g_tableIn (pc := 60) (off := 218) X 278 dL_act_60 (by omega) (by omega) (by omega) (by rw [show v57 - 0 = 17 by omega]; rfl) (by decide) ?_
                                        refine g_aload_n (pc := 278) (pl := 5) X dL_act_278 rfl ?_
                                        refine gVi (pc := 279) (n2 := 0) (k2 := 0) X cs_L_act_68 (c_X8_undo (zl K) D base x lo m sa sl st ss g n f hq hlo hI) rfl hO (by omega) hA rfl ⟨Nat.le_of_ble_eq_true rfl, Nat.le_of_ble_eq_true rfl⟩ dL_act_279 (Nat.le_of_ble_eq_true rfl) rfl rfl (fun v279 H2 hp279 hs279 => ?_)
                                        obtain ⟨hv, hA2, hFx⟩ := hp279
                                        subst hv
                                        refine G.widen (n' := 121) (k' := 4272) (by omega) (by omega) ?_
                                        refine g_iret (pc := 282) X R hH dL_act_282 ?_
                                        exact act_un hm6 hI hQ hIs hA2 (by have := hFx.1; omega)

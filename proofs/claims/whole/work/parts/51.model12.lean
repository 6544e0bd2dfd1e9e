/-- what stood ahead and behind is remembered -/
def rmA (F : Int → Int) (n a k : Int) : Int → Int := fun j => if 188 + 80 * n ≤ j ∧ j < 188 + 80 * n + k then F (4 + a - (j - (188 + 80 * n))) else F j
def rmB (F G : Int → Int) (n b k : Int) : Int → Int := fun j => if 197 + 80 * n ≤ j ∧ j < 197 + 80 * n + k then F (6 + b + (j - (197 + 80 * n))) else G j
def rmF (F : Int → Int) (n a b : Int) : Int → Int := up (up (rmB F (rmA F n a (aheadN F a)) n b (behindN F b)) (187 + 80 * n) (aheadN F a)) (196 + 80 * n) (behindN F b)
theorem rmA_0 {F : Int → Int} {n a : Int} : ∀ j : Int, F j = rmA F n a 0 j := fun j => (if_neg (by omega)).symm
theorem rmB_0 {F G : Int → Int} {n b : Int} : ∀ j : Int, G j = rmB F G n b 0 j := fun j => (if_neg (by omega)).symm
theorem rmA_step {F : Int → Int} {n a k z w : Int} (hk : 0 ≤ k) (hz : z = 188 + 80 * n + k) (hw : w = F (4 + a - k)) (j : Int) : up (rmA F n a k) z w j = rmA F n a (k + 1) j := by
  unfold up rmA
  by_cases c : j = z
  · rw [if_pos c, if_pos (show 188 + 80 * n ≤ j ∧ j < 188 + 80 * n + (k + 1) by omega), hw]; congr 1; omega
  · rw [if_neg c]
    by_cases c2 : 188 + 80 * n ≤ j ∧ j < 188 + 80 * n + k
    · rw [if_pos c2, if_pos (show 188 + 80 * n ≤ j ∧ j < 188 + 80 * n + (k + 1) by omega)]
    · rw [if_neg c2, if_neg (show ¬ (188 + 80 * n ≤ j ∧ j < 188 + 80 * n + (k + 1)) by omega)]
theorem rmB_step {F G : Int → Int} {n b k z w : Int} (hk : 0 ≤ k) (hz : z = 197 + 80 * n + k) (hw : w = F (6 + b + k)) (j : Int) : up (rmB F G n b k) z w j = rmB F G n b (k + 1) j := by
  unfold up rmB
  by_cases c : j = z
  · rw [if_pos c, if_pos (show 197 + 80 * n ≤ j ∧ j < 197 + 80 * n + (k + 1) by omega), hw]; congr 1; omega
  · rw [if_neg c]
    by_cases c2 : 197 + 80 * n ≤ j ∧ j < 197 + 80 * n + k
    · rw [if_pos c2, if_pos (show 197 + 80 * n ≤ j ∧ j < 197 + 80 * n + (k + 1) by omega)]
    · rw [if_neg c2, if_neg (show ¬ (197 + 80 * n ≤ j ∧ j < 197 + 80 * n + (k + 1)) by omega)]
theorem rmF_at {F : Int → Int} {n a b : Int} (hn : 0 ≤ n) (ha : 0 ≤ aheadN F a ∧ aheadN F a ≤ 8) (hb : 0 ≤ behindN F b ∧ behindN F b ≤ 8) : (∀ j : Int, j < 187 + 80 * n ∨ 205 + 80 * n ≤ j → rmF F n a b j = F j) ∧ rmF F n a b (187 + 80 * n) = aheadN F a ∧ rmF F n a b (196 + 80 * n) = behindN F b ∧ (∀ j : Int, 0 ≤ j → j < aheadN F a → rmF F n a b (188 + 80 * n + j) = F (4 + a - j)) ∧ (∀ j : Int, 0 ≤ j → j < behindN F b → rmF F n a b (197 + 80 * n + j) = F (6 + b + j)) := by
  refine ⟨fun j hj => (if_neg (by omega)).trans ((if_neg (by omega)).trans ((if_neg (by omega)).trans (if_neg (by omega)))), (if_neg (by omega)).trans (if_pos rfl), if_pos rfl, fun j j0 j1 => (if_neg (by omega)).trans ((if_neg (by omega)).trans ((if_neg (by omega)).trans ((if_pos (by omega)).trans (congrArg F (by omega))))), fun j j0 j1 => (if_neg (by omega)).trans ((if_neg (by omega)).trans ((if_pos (by omega)).trans (congrArg F (by omega))))⟩
/-- letters become a note's own -/
def owX (F : Int → Int) (n a x : Int) : Int → Int := fun j => if 65 + a ≤ j ∧ j < 65 + x then addB (F j) n else F j
theorem owX_0 {F : Int → Int} {n a : Int} : ∀ j : Int, F j = owX F n a a j := fun j => (if_neg (by omega)).symm
theorem owX_step {F : Int → Int} {n a x : Int} (h : a ≤ x) (j : Int) : up (owX F n a x) (65 + x) (addB (F (65 + x)) n) j = owX F n a (x + 1) j := by
  unfold up owX
  by_cases c : j = 65 + x
  · rw [if_pos c, if_pos (show 65 + a ≤ j ∧ j < 65 + (x + 1) by omega), c]
  · rw [if_neg c]
    by_cases c2 : 65 + a ≤ j ∧ j < 65 + x
    · rw [if_pos c2, if_pos (show 65 + a ≤ j ∧ j < 65 + (x + 1) by omega)]
    · rw [if_neg c2, if_neg (show ¬ (65 + a ≤ j ∧ j < 65 + (x + 1)) by omega)]
theorem owX_lo {F : Int → Int} {n a x j : Int} (h : j < 65 + a ∨ 65 + x ≤ j) : owX F n a x j = F j := if_neg (by omega)
theorem owX_at {F : Int → Int} {n a b i : Int} : owX F n a (b + 1) (65 + i) = if a ≤ i ∧ i ≤ b then addB (F (65 + i)) n else F (65 + i) := by
  unfold owX
  by_cases c : a ≤ i ∧ i ≤ b
  · rw [if_pos c, if_pos (by omega)]
  · rw [if_neg c, if_neg (by omega)]
/-- a note takes letters -/
def tkX (F : Int → Int) (n a b : Int) : Int → Int := rmF (owX F n a (b + 1)) n a b
/-- its words -/
def wdX (F : Int → Int) (n a x : Int) : Int → Int := fun j => if 127 + 80 * n ≤ j ∧ j < 127 + 80 * n + (x - a) then F (5 + a + (j - (127 + 80 * n))) else F j
theorem wdX_0 {F : Int → Int} {n a : Int} : ∀ j : Int, F j = wdX F n a a j := fun j => (if_neg (by omega)).symm
theorem wdX_step {F : Int → Int} {n a x z w : Int} (h : a ≤ x) (hz : z = 127 + 80 * n + (x - a)) (hw : w = F (5 + x)) (j : Int) : up (wdX F n a x) z w j = wdX F n a (x + 1) j := by
  unfold up wdX
  by_cases c : j = z
  · rw [if_pos c, if_pos (show 127 + 80 * n ≤ j ∧ j < 127 + 80 * n + (x + 1 - a) by omega), hw]; congr 1; omega
  · rw [if_neg c]
    by_cases c2 : 127 + 80 * n ≤ j ∧ j < 127 + 80 * n + (x - a)
    · rw [if_pos c2, if_pos (show 127 + 80 * n ≤ j ∧ j < 127 + 80 * n + (x + 1 - a) by omega)]
    · rw [if_neg c2, if_neg (show ¬ (127 + 80 * n ≤ j ∧ j < 127 + 80 * n + (x + 1 - a)) by omega)]
def ntX (f : Int → Int) (a b : Int) : Int → Int := up (tkX (wdX (up (up f (125 + 80 * f 1 + 0) (-6)) (125 + 80 * f 1 + 1) (b - a + 1)) (f 1) a (b + 1)) (f 1) a b) 1 (f 1 + 1)
/-- what is an anchored note, as far as it counts -/
theorem an_eq {g G : Int → Int} {n a b : Int} (hn : 0 ≤ n ∧ n < g 1) (h16 : g 1 ≤ 16) (hab : 0 ≤ a ∧ a ≤ b ∧ b < g 0 ∧ g 0 ≤ 60) (h2 : 0 ≤ g 2 ∧ g 2 ≤ 8) (h0 : ∀ j : Int, 0 ≤ j → j < 5 → G j = g j) (hL : ∀ i : Int, 0 ≤ i → i < g 0 → G (5 + i) = g (5 + i)) (hO : ∀ i : Int, 0 ≤ i → i < g 0 → G (65 + i) = if a ≤ i ∧ i ≤ b then addB (g (65 + i)) n else g (65 + i))
    (hK : ∀ j : Int, 125 ≤ j → j < 125 + 80 * n ∨ 205 + 80 * n ≤ j → G j = g j) (hl : ∀ k : Int, 0 ≤ k → k < g 1 → ¬ k = n → Lns g k) (hT : G (125 + 80 * n) = -6 ∧ G (126 + 80 * n) = b - a + 1 ∧ G (187 + 80 * n) = aheadN g a ∧ G (196 + 80 * n) = behindN g b)
    (hW : ∀ j : Int, 0 ≤ j → j < b - a + 1 → G (127 + 80 * n + j) = g (5 + (a + j))) (hA : ∀ j : Int, 0 ≤ j → j < aheadN g a → G (188 + 80 * n + j) = g (5 + (a - 1 - j))) (hB : ∀ j : Int, 0 ≤ j → j < behindN g b → G (197 + 80 * n + j) = g (5 + (b + 1 + j))) : MEq (anG g n a b) G := by
  have hah : 0 ≤ aheadN g a ∧ aheadN g a ≤ 8 ∧ aheadN g a ≤ a := by unfold aheadN; split <;> omega
  have hbh : 0 ≤ behindN g b ∧ behindN g b ≤ 8 ∧ behindN g b ≤ g 0 - 1 - b := by unfold behindN; split <;> omega
  refine ⟨fun j j0 j1 => ?_, fun i i0 i1 => ?_, fun k k0 k1 => ?_⟩
  · rw [anG_lo hn.1 (by omega)]; exact (h0 j j0 j1).symm
  · rw [anG_lo hn.1 (by omega)] at i1
    rw [anG_lo hn.1 (by omega), anG_own i0 (by omega)]
    exact ⟨(hL i i0 i1).symm, (hO i i0 i1).symm⟩
  · rw [anG_lo hn.1 (by omega)] at k1
    by_cases z : k = n
    · rw [z]
      obtain ⟨t1, t2, t3, t4⟩ := anG_to (g := g) (i := n) (a := a) (b := b) hn.1
      obtain ⟨s1, s2, s3, s4⟩ := hT
      refine ⟨by rw [t1, s1], fun _ => ⟨by rw [t2, s2], by rw [t3, s3], by rw [t4, s4], fun j j0 j1 => ?_, fun j j0 j1 => ?_, fun j j0 j1 => ?_⟩⟩
      · rw [t2] at j1
        rw [anG_wd hn.1 j0 (by omega), hW j j0 j1]
      · rw [t3] at j1
        rw [anG_ah hn.1 j0 (by omega), hA j j0 j1]
      · rw [t4] at j1
        rw [anG_bh hn.1 j0 (by omega), hB j j0 j1]
    · have hn1 := hl k k0 k1 z
      have f1 := anG_neq (g := g) (a := a) (b := b) hn.1 k0 z (fun y => by have := hn1 y; omega)
      refine f1.symm.trans ⟨(hK _ (by omega) (by omega)).symm, fun y => ?_⟩
      have := hn1 y
      exact ⟨(hK _ (by omega) (by omega)).symm, (hK _ (by omega) (by omega)).symm, (hK _ (by omega) (by omega)).symm, fun j j0 j1 => (hK _ (by omega) (by omega)).symm, fun j j0 j1 => (hK _ (by omega) (by omega)).symm, fun j j0 j1 => (hK _ (by omega) (by omega)).symm⟩
theorem tk_ab {F : Int → Int} {n a b : Int} (hn : 0 ≤ n) (hab : 0 ≤ a ∧ a ≤ b ∧ b < F 0 ∧ F 0 ≤ 60) (h2 : 0 ≤ F 2 ∧ F 2 ≤ 8) : aheadN (owX F n a (b + 1)) a = aheadN F a ∧ behindN (owX F n a (b + 1)) b = behindN F b ∧ (0 ≤ aheadN F a ∧ aheadN F a ≤ 8 ∧ aheadN F a ≤ a) ∧ (0 ≤ behindN F b ∧ behindN F b ≤ 8 ∧ behindN F b ≤ F 0 - 1 - b) := by
  refine ⟨by unfold aheadN; rw [owX_lo (by omega)], by unfold behindN; rw [owX_lo (by omega), owX_lo (by omega)], by unfold aheadN; split <;> omega, by unfold behindN; split <;> omega⟩
/-- all that tkX leaves -/
theorem tkX_at {F : Int → Int} {n a b : Int} (hn : 0 ≤ n) (hab : 0 ≤ a ∧ a ≤ b ∧ b < F 0 ∧ F 0 ≤ 60) (h2 : 0 ≤ F 2 ∧ F 2 ≤ 8) : (∀ j : Int, j < 65 → tkX F n a b j = F j) ∧ (∀ i : Int, 0 ≤ i → i < 60 → tkX F n a b (65 + i) = if a ≤ i ∧ i ≤ b then addB (F (65 + i)) n else F (65 + i)) ∧ (∀ j : Int, 125 ≤ j → j < 187 + 80 * n ∨ 205 + 80 * n ≤ j → tkX F n a b j = F j) ∧ tkX F n a b (187 + 80 * n) = aheadN F a ∧ tkX F n a b (196 + 80 * n) = behindN F b ∧ (∀ j : Int, 0 ≤ j → j < aheadN F a → tkX F n a b (188 + 80 * n + j) = F (5 + (a - 1 - j))) ∧ (∀ j : Int, 0 ≤ j → j < behindN F b → tkX F n a b (197 + 80 * n + j) = F (5 + (b + 1 + j))) := by
  obtain ⟨eA, eB, hA, hB⟩ := tk_ab hn hab h2
  obtain ⟨q1, q2, q3, q4, q5⟩ := rmF_at (F := owX F n a (b + 1)) (n := n) (a := a) (b := b) hn (by omega) (by omega)
  rw [eA] at q2 q4
  rw [eB] at q3 q5
  refine ⟨fun j hj => (q1 j (by omega)).trans (owX_lo (by omega)), fun i i0 i1 => (q1 _ (by omega)).trans owX_at, fun j j0 j1 => (q1 j (by omega)).trans (owX_lo (by omega)), q2, q3, fun j j0 j1 => (q4 j j0 j1).trans ((owX_lo (by omega)).trans (congrArg F (by omega))), fun j j0 j1 => (q5 j j0 j1).trans ((owX_lo (by omega)).trans (congrArg F (by omega)))⟩
theorem ntX_eq {f : Int → Int} {a b : Int} (hI : PInv f) (h16 : f 1 < 16) (hab : 0 ≤ a ∧ a ≤ b ∧ b < f 0) : MEq (anG (up f 1 (f 1 + 1)) (f 1) a b) (ntX f a b) := by
  have hn := hI.nums
  obtain ⟨V, hV⟩ : ∃ V : Int → Int, wdX (up (up f (125 + 80 * f 1 + 0) (-6)) (125 + 80 * f 1 + 1) (b - a + 1)) (f 1) a (b + 1) = V := ⟨_, rfl⟩
  have v1 : ∀ j : Int, j < 125 + 80 * f 1 ∨ 187 + 80 * f 1 ≤ j → V j = f j := fun j hj => by rw [← hV]; exact (if_neg (by omega)).trans ((if_neg (by omega)).trans (if_neg (by omega)))
  have v2 : V (125 + 80 * f 1) = -6 := by rw [← hV]; exact (if_neg (by omega)).trans ((if_neg (by omega)).trans (if_pos (by omega)))
  have v3 : V (126 + 80 * f 1) = b - a + 1 := by rw [← hV]; exact (if_neg (by omega)).trans (if_pos (by omega))
  have v4 : ∀ j : Int, 0 ≤ j → j < b - a + 1 → V (127 + 80 * f 1 + j) = f (5 + (a + j)) := fun j j0 j1 => by rw [← hV]; exact (if_pos (by omega)).trans ((if_neg (by omega)).trans ((if_neg (by omega)).trans (congrArg f (by omega))))
  have v0 := v1 0 (by omega)
  have v22 := v1 2 (by omega)
  obtain ⟨t1, t2, t3, t4, t5, t6, t7⟩ := tkX_at (F := V) (n := f 1) (a := a) (b := b) hn.2.2.1 (by omega) (by omega)
  have eA : aheadN (up f 1 (f 1 + 1)) a = aheadN V a := by unfold aheadN; rw [v22, show up f 1 (f 1 + 1) 2 = f 2 from if_neg (by omega)]
  have eB : behindN (up f 1 (f 1 + 1)) b = behindN V b := by unfold behindN; rw [v22, v0, show up f 1 (f 1 + 1) 2 = f 2 from if_neg (by omega), show up f 1 (f 1 + 1) 0 = f 0 from if_neg (by omega)]
  have bA : aheadN V a ≤ a := by unfold aheadN; split <;> omega
  have bB : behindN V b ≤ f 0 - 1 - b := by unfold behindN; split <;> omega
  have eX : ∀ j : Int, ¬ j = 1 → ntX f a b j = tkX V (f 1) a b j := fun j hj => by rw [← hV]; exact if_neg hj
  have ux : ∀ j : Int, ¬ j = 1 → up f 1 (f 1 + 1) j = f j := fun j hj => if_neg hj
  have u1 : up f 1 (f 1 + 1) 1 = f 1 + 1 := if_pos rfl
  refine an_eq (by rw [u1]; omega) (by rw [u1]; omega) (by rw [ux 0 (by omega)]; omega) (by rw [ux 2 (by omega)]; omega) (fun j j0 j1 => ?_) (fun i i0 i1 => ?_) (fun i i0 i1 => ?_) (fun j j0 j1 => ?_) (fun k k0 k1 kn => ?_) ⟨?_, ?_, ?_, ?_⟩ (fun j j0 j1 => ?_) (fun j j0 j1 => ?_) (fun j j0 j1 => ?_)
  · by_cases z : j = 1
    · rw [z, u1]; show up _ 1 (f 1 + 1) 1 = f 1 + 1; exact if_pos rfl
    · rw [eX j z, t1 j (by omega), v1 j (by omega), ux j z]
  · rw [ux 0 (by omega)] at i1
    rw [eX _ (by omega), t1 _ (by omega), v1 _ (by omega), ux _ (by omega)]
  · rw [ux 0 (by omega)] at i1
    rw [eX _ (by omega), t2 i i0 (by omega), v1 _ (by omega), ux _ (by omega)]
  · rw [eX _ (by omega), t3 j j0 (by omega), v1 _ (by omega), ux _ (by omega)]
  · rw [u1] at k1
    have := hI.lns' k0 (show k < f 1 by omega)
    unfold Lns at this ⊢
    rw [ux _ (by omega), ux _ (by omega), ux _ (by omega), ux _ (by omega)]
    exact this
  · rw [eX _ (by omega), t3 _ (by omega) (by omega), v2]
  · rw [eX _ (by omega), t3 _ (by omega) (by omega), v3]
  · rw [eX _ (by omega), t4, eA]
  · rw [eX _ (by omega), t5, eB]
  · rw [eX _ (by omega), t3 _ (by omega) (by omega), v4 j j0 j1, ux _ (by omega)]
  · rw [eA] at j1
    rw [eX _ (by omega), t6 j j0 j1, v1 _ (by omega), ux _ (by omega)]
  · rw [eB] at j1
    rw [eX _ (by omega), t7 j j0 j1, v1 _ (by omega), ux _ (by omega)]
theorem ntR_may {f : Int → Int} {a b z : Int} (h : (if perr f a b < 0 then perr f a b else if 16 ≤ f 1 then -4 else 0) = z) : (z = 0 ∧ (0 ≤ a ∧ a ≤ b ∧ b < f 0) ∧ f 1 < 16 ∧ ntR f a b = f 1) ∨ (z < 0 ∧ ntR f a b = z) := by
  unfold ntR
  by_cases c1 : perr f a b < 0
  · rw [if_pos c1] at h ⊢; omega
  · rw [if_neg c1] at h ⊢
    have c2 := perr_ok c1
    by_cases c3 : 16 ≤ f 1
    · rw [if_pos c3] at h ⊢; omega
    · rw [if_neg c3] at h ⊢
      exact Or.inl ⟨h.symm, c2, by omega, rfl⟩

abbrev rm_X9_remembers : Room := { frames := 0, cells := 0, slots := 0, locals := 0 }
theorem zF_X9_remembers_7 : zF RX9 wsX9_remembers 9 0 7 := ⟨RX9, TX9, 17, rfl, by decide +kernel, by decide, by decide +kernel⟩
set_option maxRecDepth 100000 in
theorem c_X9_remembers (l : Launch) (D : zD) (base : Nat) (y : Nat) (kp pd at' od fi la pc : Int) (f : Int → Int) (n a b : Int) (hq : base ≤ y) (hn : 0 ≤ n ∧ n < 16) (hp : 0 ≤ a ∧ a ≤ b ∧ b < f 0 ∧ f 0 ≤ 60) (h2 : 0 ≤ f 2 ∧ f 2 ≤ 8) : Ct l yX9_remembers wsX9_remembers rm_X9_remembers D base [.ref y, .int (J n), .int (J a), .int (J b)] (fun H => MoO D y kp pd at' od fi la pc H ∧ NwAt D y f H) (PV (fun H H1 => MoO D y kp pd at' od fi la pc H1 ∧ NwAt D y (rmF f n a b) H1 ∧ Fr (Iv (y + 1) (y + 2)) 0 H H1)) := by
  refine Ct.of (own := RX9) (cc := cX9_remembers) (maxL := 7) (by decide +kernel) rfl (Nat.le_of_ble_eq_true rfl) rfl ?_
  intro K H X R hH hnm hP
  show G K 0 0 H 0 [(0, .ref y), (1, .int (J n)), (2, .int (J a)), (3, .int (J b))] []
  obtain ⟨hO, hNw⟩ := hP
  have hah : 0 ≤ aheadN f a ∧ aheadN f a ≤ 8 ∧ aheadN f a ≤ a := by unfold aheadN; split <;> omega
  have hbh : 0 ≤ behindN f b ∧ behindN f b ≤ 8 ∧ behindN f b ≤ f 0 - 1 - b := by unfold behindN; split <;> omega
  have eah : aheadN f a ≤ f 2 ∧ (aheadN f a = f 2 ∨ aheadN f a = a) := by unfold aheadN; split <;> omega
  have ebh : behindN f b ≤ f 2 ∧ (behindN f b = f 2 ∨ behindN f b = f 0 - 1 - b) := by unfold behindN; split <;> omega
  refine g_bipush (pc := 0) X dX9_remembers_0 (by decide +kernel) ?_
  refine g_bipush (pc := 2) X dX9_remembers_2 (by decide +kernel) ?_
  refine g_iload_n (pc := 4) (pl := 1) X dX9_remembers_4 rfl ?_
  refine g_imul (pc := 5) X dX9_remembers_5 ?_
  refine g_iadd (pc := 6) X dX9_remembers_6 ?_
  refine g_istore (pc := 7) (lv' := [(4, _), (0, _), (1, _), (2, _), (3, _)]) X dX9_remembers_7 (by decide) rfl ?_
  refine g_iconst (pc := 9) X dX9_remembers_9 ?_
  refine g_istore (pc := 10) (lv' := [(5, _), (4, _), (0, _), (1, _), (2, _), (3, _)]) X dX9_remembers_10 (by decide) rfl ?_
  refine g_iconst (pc := 12) X dX9_remembers_12 ?_
  refine g_istore (pc := 13) (lv' := [(6, _), (5, _), (4, _), (0, _), (1, _), (2, _), (3, _)]) X dX9_remembers_13 (by decide) rfl ?_
  have hL15 : ∀ (fu : Nat) (k : Nat) (ki : Int) (Hx : Heap), 9 - k < fu → (ki = (k : Int)) → ((k : Int) ≤ aheadN f a) → (MoO D y kp pd at' od fi la pc Hx) → (NwAt D y (rmA f n a (k : Int)) Hx) → (Fr (Iv (y + 1) (y + 2)) 0 H Hx) → G K 0 0 Hx 15 [(0, .ref y), (1, .int (J n)), (2, .int (J a)), (3, .int (J b)), (4, .int (J (125 + 80 * n))), (5, .int (J ki)), (6, .int (J 0))] [] := by
    intro fu
    induction fu with
    | zero => intro k ki Hx hm; exact absurd hm (Nat.not_lt_zero _)
    | succ fu ih15 =>
      intro k ki Hx hm he h1 hO hNw h3
      subst he
      refine g_iload (pc := 15) (pl := 5) X dX9_remembers_15 rfl ?_
      refine g_aload_n (pc := 17) (pl := 0) X dX9_remembers_17 rfl ?_
      refine g_getf (pc := 18) X zF_X9_remembers_7 hO rfl dX9_remembers_18 ?_
      refine g_iconst (pc := 21) X dX9_remembers_21 ?_
      refine g_iaload (pc := 22) X hNw (by omega) (by omega) (by omega) dX9_remembers_22 ?_
      rw [show (rmA f n a (k : Int)) 2 = f 2 from (if_neg (by omega))]
      refine g_icmp_ge (pc := 23) X 69 dX9_remembers_23 (by decide) (by omega) (by omega) (fun c23 => ?_) (fun c23 => ?_)
      · skip
        have ek : (k : Int) = aheadN f a := by omega
        rw [ek] at hNw
        have hL69 : ∀ (fu : Nat) (k : Nat) (ki : Int) (Hx : Heap), 9 - k < fu → (ki = (k : Int)) → ((k : Int) ≤ behindN f b) → (MoO D y kp pd at' od fi la pc Hx) → (NwAt D y (rmB f (rmA f n a (aheadN f a)) n b (k : Int)) Hx) → (Fr (Iv (y + 1) (y + 2)) 0 H Hx) → G K 0 0 Hx 69 [(0, .ref y), (1, .int (J n)), (2, .int (J a)), (3, .int (J b)), (4, .int (J (125 + 80 * n))), (5, .int (J (aheadN f a))), (6, .int (J ki))] [] := by
          intro fu
          induction fu with
          | zero => intro k ki Hx hm; exact absurd hm (Nat.not_lt_zero _)
          | succ fu ih69 =>
            intro k ki Hx hm he h1 hO hNw h3
            subst he
            refine g_iload (pc := 69) (pl := 6) X dX9_remembers_69 rfl ?_
            refine g_aload_n (pc := 71) (pl := 0) X dX9_remembers_71 rfl ?_
            refine g_getf (pc := 72) X zF_X9_remembers_7 hO rfl dX9_remembers_72 ?_
            refine g_iconst (pc := 75) X dX9_remembers_75 ?_
            refine g_iaload (pc := 76) X hNw (by omega) (by omega) (by omega) dX9_remembers_76 ?_
            rw [show (rmB f (rmA f n a (aheadN f a)) n b (k : Int)) 2 = f 2 from ((if_neg (by omega)).trans (if_neg (by omega)))]
            refine g_icmp_ge (pc := 77) X 129 dX9_remembers_77 (by decide) (by omega) (by omega) (fun c77 => ?_) (fun c77 => ?_)
            · skip
              refine g_aload_n (pc := 129) (pl := 0) X dX9_remembers_129 rfl ?_
              refine g_getf (pc := 130) X zF_X9_remembers_7 hO rfl dX9_remembers_130 ?_
              refine g_iload (pc := 133) (pl := 4) X dX9_remembers_133 rfl ?_
              refine g_bipush (pc := 135) X dX9_remembers_135 (by decide +kernel) ?_
              refine g_iadd (pc := 137) X dX9_remembers_137 ?_
              refine g_iload (pc := 138) (pl := 5) X dX9_remembers_138 rfl ?_
              refine g_iastore (pc := 140) X hNw (by omega) (by omega) (by omega) (by omega) dX9_remembers_140 (fun H1 hNwn hf1 => ?_)
              replace hO := hO.fr hf1 (by omega)
              replace hNw := hNwn
              clear hNwn
              refine g_aload_n (pc := 141) (pl := 0) X dX9_remembers_141 rfl ?_
              refine g_getf (pc := 142) X zF_X9_remembers_7 hO rfl dX9_remembers_142 ?_
              refine g_iload (pc := 145) (pl := 4) X dX9_remembers_145 rfl ?_
              refine g_bipush (pc := 147) X dX9_remembers_147 (by decide +kernel) ?_
              refine g_iadd (pc := 149) X dX9_remembers_149 ?_
              refine g_iload (pc := 150) (pl := 6) X dX9_remembers_150 rfl ?_
              refine g_iastore (pc := 152) X hNw (by omega) (by omega) (by omega) (by omega) dX9_remembers_152 (fun H2 hNwn hf2 => ?_)
              replace hO := hO.fr hf2 (by omega)
              replace hNw := hNwn
              clear hNwn
              refine g_vret (pc := 153) X R hH dX9_remembers_153 ?_
              have ek2 : (k : Int) = behindN f b := by omega
              rw [ek2] at hNw
              rw [show 125 + 80 * n + 62 = 187 + 80 * n by omega, show 125 + 80 * n + 71 = 196 + 80 * n by omega] at hNw
              exact ⟨hO, hNw, (Fr.trans (h3.wide (by omega) (by omega)) (Fr.trans (hf1.wide (by omega) (by omega)) (hf2.wide (by omega) (by omega))))⟩
            · skip
              refine g_iload_n (pc := 80) (pl := 3) X dX9_remembers_80 rfl ?_
              refine g_iconst (pc := 81) X dX9_remembers_81 ?_
              refine g_iadd (pc := 82) X dX9_remembers_82 ?_
              refine g_iload (pc := 83) (pl := 6) X dX9_remembers_83 rfl ?_
              refine g_iadd (pc := 85) X dX9_remembers_85 ?_
              refine g_aload_n (pc := 86) (pl := 0) X dX9_remembers_86 rfl ?_
              refine g_getf (pc := 87) X zF_X9_remembers_7 hO rfl dX9_remembers_87 ?_
              refine g_iconst (pc := 90) X dX9_remembers_90 ?_
              refine g_iaload (pc := 91) X hNw (by omega) (by omega) (by omega) dX9_remembers_91 ?_
              rw [show (rmB f (rmA f n a (aheadN f a)) n b (k : Int)) 0 = f 0 from ((if_neg (by omega)).trans (if_neg (by omega)))]
              refine g_icmp_ge (pc := 92) X 129 dX9_remembers_92 (by decide) (by omega) (by omega) (fun c92 => ?_) (fun c92 => ?_)
              · skip
                refine g_aload_n (pc := 129) (pl := 0) X dX9_remembers_129 rfl ?_
                refine g_getf (pc := 130) X zF_X9_remembers_7 hO rfl dX9_remembers_130 ?_
                refine g_iload (pc := 133) (pl := 4) X dX9_remembers_133 rfl ?_
                refine g_bipush (pc := 135) X dX9_remembers_135 (by decide +kernel) ?_
                refine g_iadd (pc := 137) X dX9_remembers_137 ?_
                refine g_iload (pc := 138) (pl := 5) X dX9_remembers_138 rfl ?_
                refine g_iastore (pc := 140) X hNw (by omega) (by omega) (by omega) (by omega) dX9_remembers_140 (fun H1 hNwn hf1 => ?_)
                replace hO := hO.fr hf1 (by omega)
                replace hNw := hNwn
                clear hNwn
                refine g_aload_n (pc := 141) (pl := 0) X dX9_remembers_141 rfl ?_
                refine g_getf (pc := 142) X zF_X9_remembers_7 hO rfl dX9_remembers_142 ?_
                refine g_iload (pc := 145) (pl := 4) X dX9_remembers_145 rfl ?_
                refine g_bipush (pc := 147) X dX9_remembers_147 (by decide +kernel) ?_
                refine g_iadd (pc := 149) X dX9_remembers_149 ?_
                refine g_iload (pc := 150) (pl := 6) X dX9_remembers_150 rfl ?_
                refine g_iastore (pc := 152) X hNw (by omega) (by omega) (by omega) (by omega) dX9_remembers_152 (fun H2 hNwn hf2 => ?_)
                replace hO := hO.fr hf2 (by omega)
                replace hNw := hNwn
                clear hNwn
                refine g_vret (pc := 153) X R hH dX9_remembers_153 ?_
                have ek2 : (k : Int) = behindN f b := by omega
                rw [ek2] at hNw
                rw [show 125 + 80 * n + 62 = 187 + 80 * n by omega, show 125 + 80 * n + 71 = 196 + 80 * n by omega] at hNw
                exact ⟨hO, hNw, (Fr.trans (h3.wide (by omega) (by omega)) (Fr.trans (hf1.wide (by omega) (by omega)) (hf2.wide (by omega) (by omega))))⟩
              · skip
                refine g_aload_n (pc := 95) (pl := 0) X dX9_remembers_95 rfl ?_
                refine g_getf (pc := 96) X zF_X9_remembers_7 hO rfl dX9_remembers_96 ?_
                refine g_iload (pc := 99) (pl := 4) X dX9_remembers_99 rfl ?_
                refine g_bipush (pc := 101) X dX9_remembers_101 (by decide +kernel) ?_
                refine g_iadd (pc := 103) X dX9_remembers_103 ?_
                refine g_iconst (pc := 104) X dX9_remembers_104 ?_
                refine g_iadd (pc := 105) X dX9_remembers_105 ?_
                refine g_iload (pc := 106) (pl := 6) X dX9_remembers_106 rfl ?_
                refine g_iadd (pc := 108) X dX9_remembers_108 ?_
                refine g_aload_n (pc := 109) (pl := 0) X dX9_remembers_109 rfl ?_
                refine g_getf (pc := 110) X zF_X9_remembers_7 hO rfl dX9_remembers_110 ?_
                refine g_iconst (pc := 113) X dX9_remembers_113 ?_
                refine g_iload_n (pc := 114) (pl := 3) X dX9_remembers_114 rfl ?_
                refine g_iadd (pc := 115) X dX9_remembers_115 ?_
                refine g_iconst (pc := 116) X dX9_remembers_116 ?_
                refine g_iadd (pc := 117) X dX9_remembers_117 ?_
                refine g_iload (pc := 118) (pl := 6) X dX9_remembers_118 rfl ?_
                refine g_iadd (pc := 120) X dX9_remembers_120 ?_
                refine g_iaload (pc := 121) X hNw (by omega) (by omega) (by omega) dX9_remembers_121 ?_
                refine g_iastore (pc := 122) X hNw (by omega) (by omega) (by omega) (by omega) dX9_remembers_122 (fun H1 hNwn hf1 => ?_)
                replace hO := hO.fr hf1 (by omega)
                replace hNw := hNwn
                clear hNwn
                refine g_iinc (pc := 123) (pl := 6) (x := (k : Int)) (lv' := [(6, _), (0, _), (1, _), (2, _), (3, _), (4, _), (5, _)]) X dX9_remembers_123 rfl (by decide) rfl ?_
                refine g_goto (pc := 126) X 69 dX9_remembers_126 (by decide) ?_
                refine G.pick [1, 2, 3, 4, 5, 6, 0] (lv' := [(0, _), (1, _), (2, _), (3, _), (4, _), (5, _), (6, _)]) rfl ?_
                exact ih69 (k + 1) _ H1 (by omega) (by omega) (by omega) hO (Ia.congr hNw (fun j _ _ => rmB_step (k := (k : Int)) (by omega) (by omega) ((if_neg (by omega)).trans ((if_neg (by omega)).trans (congrArg f (by omega)))) j)) (Fr.trans (h3.wide (by omega) (by omega)) (hf1.wide (by omega) (by omega)))
        refine G.pick [0, 1, 2, 3, 4, 5, 6] (lv' := [(0, _), (1, _), (2, _), (3, _), (4, _), (5, _), (6, _)]) rfl ?_
        first | rw [ek] | skip
        exact hL69 _ 0 _ Hx (Nat.lt_succ_self _) rfl (by omega) hO (Ia.congr hNw (fun j _ _ => rmB_0 j)) (h3.wide (by omega) (by omega))
      · skip
        refine g_iload_n (pc := 26) (pl := 2) X dX9_remembers_26 rfl ?_
        refine g_iconst (pc := 27) X dX9_remembers_27 ?_
        refine g_isub (pc := 28) X dX9_remembers_28 ?_
        refine g_iload (pc := 29) (pl := 5) X dX9_remembers_29 rfl ?_
        refine g_isub (pc := 31) X dX9_remembers_31 ?_
        refine g_if_lt (pc := 32) X 69 dX9_remembers_32 (by decide) (by omega) (fun c32 => ?_) (fun c32 => ?_)
        · skip
          have ek : (k : Int) = aheadN f a := by omega
          rw [ek] at hNw
          have hL69 : ∀ (fu : Nat) (k : Nat) (ki : Int) (Hx : Heap), 9 - k < fu → (ki = (k : Int)) → ((k : Int) ≤ behindN f b) → (MoO D y kp pd at' od fi la pc Hx) → (NwAt D y (rmB f (rmA f n a (aheadN f a)) n b (k : Int)) Hx) → (Fr (Iv (y + 1) (y + 2)) 0 H Hx) → G K 0 0 Hx 69 [(0, .ref y), (1, .int (J n)), (2, .int (J a)), (3, .int (J b)), (4, .int (J (125 + 80 * n))), (5, .int (J (aheadN f a))), (6, .int (J ki))] [] := by
            intro fu
            induction fu with
            | zero => intro k ki Hx hm; exact absurd hm (Nat.not_lt_zero _)
            | succ fu ih69 =>
              intro k ki Hx hm he h1 hO hNw h3
              subst he
              refine g_iload (pc := 69) (pl := 6) X dX9_remembers_69 rfl ?_
              refine g_aload_n (pc := 71) (pl := 0) X dX9_remembers_71 rfl ?_
              refine g_getf (pc := 72) X zF_X9_remembers_7 hO rfl dX9_remembers_72 ?_
              refine g_iconst (pc := 75) X dX9_remembers_75 ?_
              refine g_iaload (pc := 76) X hNw (by omega) (by omega) (by omega) dX9_remembers_76 ?_
              rw [show (rmB f (rmA f n a (aheadN f a)) n b (k : Int)) 2 = f 2 from ((if_neg (by omega)).trans (if_neg (by omega)))]
              refine g_icmp_ge (pc := 77) X 129 dX9_remembers_77 (by decide) (by omega) (by omega) (fun c77 => ?_) (fun c77 => ?_)
              · skip
                refine g_aload_n (pc := 129) (pl := 0) X dX9_remembers_129 rfl ?_
                refine g_getf (pc := 130) X zF_X9_remembers_7 hO rfl dX9_remembers_130 ?_
                refine g_iload (pc := 133) (pl := 4) X dX9_remembers_133 rfl ?_
                refine g_bipush (pc := 135) X dX9_remembers_135 (by decide +kernel) ?_
                refine g_iadd (pc := 137) X dX9_remembers_137 ?_
                refine g_iload (pc := 138) (pl := 5) X dX9_remembers_138 rfl ?_
                refine g_iastore (pc := 140) X hNw (by omega) (by omega) (by omega) (by omega) dX9_remembers_140 (fun H1 hNwn hf1 => ?_)
                replace hO := hO.fr hf1 (by omega)
                replace hNw := hNwn
                clear hNwn
                refine g_aload_n (pc := 141) (pl := 0) X dX9_remembers_141 rfl ?_
                refine g_getf (pc := 142) X zF_X9_remembers_7 hO rfl dX9_remembers_142 ?_
                refine g_iload (pc := 145) (pl := 4) X dX9_remembers_145 rfl ?_
                refine g_bipush (pc := 147) X dX9_remembers_147 (by decide +kernel) ?_
                refine g_iadd (pc := 149) X dX9_remembers_149 ?_
                refine g_iload (pc := 150) (pl := 6) X dX9_remembers_150 rfl ?_
                refine g_iastore (pc := 152) X hNw (by omega) (by omega) (by omega) (by omega) dX9_remembers_152 (fun H2 hNwn hf2 => ?_)
                replace hO := hO.fr hf2 (by omega)
                replace hNw := hNwn
                clear hNwn
                refine g_vret (pc := 153) X R hH dX9_remembers_153 ?_
                have ek2 : (k : Int) = behindN f b := by omega
                rw [ek2] at hNw
                rw [show 125 + 80 * n + 62 = 187 + 80 * n by omega, show 125 + 80 * n + 71 = 196 + 80 * n by omega] at hNw
                exact ⟨hO, hNw, (Fr.trans (h3.wide (by omega) (by omega)) (Fr.trans (hf1.wide (by omega) (by omega)) (hf2.wide (by omega) (by omega))))⟩
              · skip
                refine g_iload_n (pc := 80) (pl := 3) X dX9_remembers_80 rfl ?_
                refine g_iconst (pc := 81) X dX9_remembers_81 ?_
                refine g_iadd (pc := 82) X dX9_remembers_82 ?_
                refine g_iload (pc := 83) (pl := 6) X dX9_remembers_83 rfl ?_
                refine g_iadd (pc := 85) X dX9_remembers_85 ?_
                refine g_aload_n (pc := 86) (pl := 0) X dX9_remembers_86 rfl ?_
                refine g_getf (pc := 87) X zF_X9_remembers_7 hO rfl dX9_remembers_87 ?_
                refine g_iconst (pc := 90) X dX9_remembers_90 ?_
                refine g_iaload (pc := 91) X hNw (by omega) (by omega) (by omega) dX9_remembers_91 ?_
                rw [show (rmB f (rmA f n a (aheadN f a)) n b (k : Int)) 0 = f 0 from ((if_neg (by omega)).trans (if_neg (by omega)))]
                refine g_icmp_ge (pc := 92) X 129 dX9_remembers_92 (by decide) (by omega) (by omega) (fun c92 => ?_) (fun c92 => ?_)
                · skip
                  refine g_aload_n (pc := 129) (pl := 0) X dX9_remembers_129 rfl ?_
                  refine g_getf (pc := 130) X zF_X9_remembers_7 hO rfl dX9_remembers_130 ?_
                  refine g_iload (pc := 133) (pl := 4) X dX9_remembers_133 rfl ?_
                  refine g_bipush (pc := 135) X dX9_remembers_135 (by decide +kernel) ?_
                  refine g_iadd (pc := 137) X dX9_remembers_137 ?_
                  refine g_iload (pc := 138) (pl := 5) X dX9_remembers_138 rfl ?_
                  refine g_iastore (pc := 140) X hNw (by omega) (by omega) (by omega) (by omega) dX9_remembers_140 (fun H1 hNwn hf1 => ?_)
                  replace hO := hO.fr hf1 (by omega)
                  replace hNw := hNwn
                  clear hNwn
                  refine g_aload_n (pc := 141) (pl := 0) X dX9_remembers_141 rfl ?_
                  refine g_getf (pc := 142) X zF_X9_remembers_7 hO rfl dX9_remembers_142 ?_
                  refine g_iload (pc := 145) (pl := 4) X dX9_remembers_145 rfl ?_
                  refine g_bipush (pc := 147) X dX9_remembers_147 (by decide +kernel) ?_
                  refine g_iadd (pc := 149) X dX9_remembers_149 ?_
                  refine g_iload (pc := 150) (pl := 6) X dX9_remembers_150 rfl ?_
                  refine g_iastore (pc := 152) X hNw (by omega) (by omega) (by omega) (by omega) dX9_remembers_152 (fun H2 hNwn hf2 => ?_)
                  replace hO := hO.fr hf2 (by omega)
                  replace hNw := hNwn
                  clear hNwn
                  refine g_vret (pc := 153) X R hH dX9_remembers_153 ?_
                  have ek2 : (k : Int) = behindN f b := by omega
                  rw [ek2] at hNw
                  rw [show 125 + 80 * n + 62 = 187 + 80 * n by omega, show 125 + 80 * n + 71 = 196 + 80 * n by omega] at hNw
                  exact ⟨hO, hNw, (Fr.trans (h3.wide (by omega) (by omega)) (Fr.trans (hf1.wide (by omega) (by omega)) (hf2.wide (by omega) (by omega))))⟩
                · skip
                  refine g_aload_n (pc := 95) (pl := 0) X dX9_remembers_95 rfl ?_
                  refine g_getf (pc := 96) X zF_X9_remembers_7 hO rfl dX9_remembers_96 ?_
                  refine g_iload (pc := 99) (pl := 4) X dX9_remembers_99 rfl ?_
                  refine g_bipush (pc := 101) X dX9_remembers_101 (by decide +kernel) ?_
                  refine g_iadd (pc := 103) X dX9_remembers_103 ?_
                  refine g_iconst (pc := 104) X dX9_remembers_104 ?_
                  refine g_iadd (pc := 105) X dX9_remembers_105 ?_
                  refine g_iload (pc := 106) (pl := 6) X dX9_remembers_106 rfl ?_
                  refine g_iadd (pc := 108) X dX9_remembers_108 ?_
                  refine g_aload_n (pc := 109) (pl := 0) X dX9_remembers_109 rfl ?_
                  refine g_getf (pc := 110) X zF_X9_remembers_7 hO rfl dX9_remembers_110 ?_
                  refine g_iconst (pc := 113) X dX9_remembers_113 ?_
                  refine g_iload_n (pc := 114) (pl := 3) X dX9_remembers_114 rfl ?_
                  refine g_iadd (pc := 115) X dX9_remembers_115 ?_
                  refine g_iconst (pc := 116) X dX9_remembers_116 ?_
                  refine g_iadd (pc := 117) X dX9_remembers_117 ?_
                  refine g_iload (pc := 118) (pl := 6) X dX9_remembers_118 rfl ?_
                  refine g_iadd (pc := 120) X dX9_remembers_120 ?_
                  refine g_iaload (pc := 121) X hNw (by omega) (by omega) (by omega) dX9_remembers_121 ?_
                  refine g_iastore (pc := 122) X hNw (by omega) (by omega) (by omega) (by omega) dX9_remembers_122 (fun H1 hNwn hf1 => ?_)
                  replace hO := hO.fr hf1 (by omega)
                  replace hNw := hNwn
                  clear hNwn
                  refine g_iinc (pc := 123) (pl := 6) (x := (k : Int)) (lv' := [(6, _), (0, _), (1, _), (2, _), (3, _), (4, _), (5, _)]) X dX9_remembers_123 rfl (by decide) rfl ?_
                  refine g_goto (pc := 126) X 69 dX9_remembers_126 (by decide) ?_
                  refine G.pick [1, 2, 3, 4, 5, 6, 0] (lv' := [(0, _), (1, _), (2, _), (3, _), (4, _), (5, _), (6, _)]) rfl ?_
                  exact ih69 (k + 1) _ H1 (by omega) (by omega) (by omega) hO (Ia.congr hNw (fun j _ _ => rmB_step (k := (k : Int)) (by omega) (by omega) ((if_neg (by omega)).trans ((if_neg (by omega)).trans (congrArg f (by omega)))) j)) (Fr.trans (h3.wide (by omega) (by omega)) (hf1.wide (by omega) (by omega)))
          refine G.pick [0, 1, 2, 3, 4, 5, 6] (lv' := [(0, _), (1, _), (2, _), (3, _), (4, _), (5, _), (6, _)]) rfl ?_
          first | rw [ek] | skip
          exact hL69 _ 0 _ Hx (Nat.lt_succ_self _) rfl (by omega) hO (Ia.congr hNw (fun j _ _ => rmB_0 j)) (h3.wide (by omega) (by omega))
        · skip
          refine g_aload_n (pc := 35) (pl := 0) X dX9_remembers_35 rfl ?_
          refine g_getf (pc := 36) X zF_X9_remembers_7 hO rfl dX9_remembers_36 ?_
          refine g_iload (pc := 39) (pl := 4) X dX9_remembers_39 rfl ?_
          refine g_bipush (pc := 41) X dX9_remembers_41 (by decide +kernel) ?_
          refine g_iadd (pc := 43) X dX9_remembers_43 ?_
          refine g_iconst (pc := 44) X dX9_remembers_44 ?_
          refine g_iadd (pc := 45) X dX9_remembers_45 ?_
          refine g_iload (pc := 46) (pl := 5) X dX9_remembers_46 rfl ?_
          refine g_iadd (pc := 48) X dX9_remembers_48 ?_
          refine g_aload_n (pc := 49) (pl := 0) X dX9_remembers_49 rfl ?_
          refine g_getf (pc := 50) X zF_X9_remembers_7 hO rfl dX9_remembers_50 ?_
          refine g_iconst (pc := 53) X dX9_remembers_53 ?_
          refine g_iload_n (pc := 54) (pl := 2) X dX9_remembers_54 rfl ?_
          refine g_iadd (pc := 55) X dX9_remembers_55 ?_
          refine g_iconst (pc := 56) X dX9_remembers_56 ?_
          refine g_isub (pc := 57) X dX9_remembers_57 ?_
          refine g_iload (pc := 58) (pl := 5) X dX9_remembers_58 rfl ?_
          refine g_isub (pc := 60) X dX9_remembers_60 ?_
          refine g_iaload (pc := 61) X hNw (by omega) (by omega) (by omega) dX9_remembers_61 ?_
          refine g_iastore (pc := 62) X hNw (by omega) (by omega) (by omega) (by omega) dX9_remembers_62 (fun H1 hNwn hf1 => ?_)
          replace hO := hO.fr hf1 (by omega)
          replace hNw := hNwn
          clear hNwn
          refine g_iinc (pc := 63) (pl := 5) (x := (k : Int)) (lv' := [(5, _), (0, _), (1, _), (2, _), (3, _), (4, _), (6, _)]) X dX9_remembers_63 rfl (by decide) rfl ?_
          refine g_goto (pc := 66) X 15 dX9_remembers_66 (by decide) ?_
          refine G.pick [1, 2, 3, 4, 5, 0, 6] (lv' := [(0, _), (1, _), (2, _), (3, _), (4, _), (5, _), (6, _)]) rfl ?_
          exact ih15 (k + 1) _ H1 (by omega) (by omega) (by omega) hO (Ia.congr hNw (fun j _ _ => rmA_step (k := (k : Int)) (by omega) (by omega) ((if_neg (by omega)).trans (congrArg f (by omega))) j)) (Fr.trans (h3.wide (by omega) (by omega)) (hf1.wide (by omega) (by omega)))
  refine G.pick [3, 4, 5, 6, 2, 1, 0] (lv' := [(0, _), (1, _), (2, _), (3, _), (4, _), (5, _), (6, _)]) rfl ?_
  exact hL15 _ 0 _ H (Nat.lt_succ_self _) rfl (by omega) hO (Ia.congr hNw (fun j _ _ => rmA_0 j)) (Fr.refl _ _)

abbrev rm_X9_takes : Room := { frames := 1, cells := 0, slots := 0, locals := 26 }
theorem cs_X9_takes_128 : zCV RX9 wsX9_takes 128 9 yX9_remembers wsX9_remembers cX9_remembers 7 none rm_X9_takes rm_X9_remembers 3 := ⟨_, _, gX9_takes_X9_remembers, rfl, ⟨by decide +kernel, by decide +kernel, by decide +kernel⟩, ⟨Nat.le_of_ble_eq_true rfl, Nat.le_of_ble_eq_true rfl⟩, rfl, rfl⟩
theorem zF_X9_takes_7 : zF RX9 wsX9_takes 9 0 7 := ⟨RX9, TX9, 17, rfl, by decide +kernel, by decide, by decide +kernel⟩
set_option maxRecDepth 100000 in
theorem c_X9_takes (l : Launch) (D : zD) (base : Nat) (y : Nat) (kp pd at' od fi la pc : Int) (f : Int → Int) (n a b : Int) (hq : base ≤ y) (hn : 0 ≤ n ∧ n < 16) (hp : 0 ≤ a ∧ a ≤ b ∧ b < f 0 ∧ f 0 ≤ 60) (h2 : 0 ≤ f 2 ∧ f 2 ≤ 8) (how : ∀ j : Int, 0 ≤ j → j < f 0 → 0 ≤ f (65 + j) ∧ f (65 + j) < 65536) : Ct l yX9_takes wsX9_takes rm_X9_takes D base [.ref y, .int (J n), .int (J a), .int (J b)] (fun H => MoO D y kp pd at' od fi la pc H ∧ NwAt D y f H) (PV (fun H H1 => MoO D y kp pd at' od fi la pc H1 ∧ NwAt D y (tkX f n a b) H1 ∧ Fr (Iv (y + 1) (y + 2)) 0 H H1)) := by
  refine Ct.of (own := RX9) (cc := cX9_takes) (maxL := 5) (by decide +kernel) rfl (Nat.le_of_ble_eq_true rfl) rfl ?_
  intro K H X R hH hnm hP
  show G K 0 0 H 0 [(0, .ref y), (1, .int (J n)), (2, .int (J a)), (3, .int (J b))] []
  obtain ⟨hO, hNw⟩ := hP
  refine g_iload_n (pc := 0) (pl := 2) X dX9_takes_0 rfl ?_
  refine g_istore (pc := 1) (lv' := [(4, _), (0, _), (1, _), (2, _), (3, _)]) X dX9_takes_1 (by decide) rfl ?_
  have hL3 : ∀ (fu : Nat) (x : Int) (Hx : Heap), (b + 1 - x).toNat < fu → (a ≤ x ∧ x ≤ b + 1) → (MoO D y kp pd at' od fi la pc Hx) → (NwAt D y (owX f n a x) Hx) → (Fr (Iv (y + 1) (y + 2)) 0 H Hx) → G K 0 0 Hx 3 [(0, .ref y), (1, .int (J n)), (2, .int (J a)), (3, .int (J b)), (4, .int (J x))] [] := by
    intro fu
    induction fu with
    | zero => intro x Hx hm; exact absurd hm (Nat.not_lt_zero _)
    | succ fu ih3 =>
      intro x Hx hm hx hO hNw h3
      refine g_iload (pc := 3) (pl := 4) X dX9_takes_3 rfl ?_
      refine g_iload_n (pc := 5) (pl := 3) X dX9_takes_5 rfl ?_
      refine g_icmp_gt (pc := 6) X 31 dX9_takes_6 (by decide) (by omega) (by omega) (fun c6 => ?_) (fun c6 => ?_)
      · skip
        have ex : x = b + 1 := by omega
        rw [ex] at hNw
        refine g_aload_n (pc := 31) (pl := 0) X dX9_takes_31 rfl ?_
        refine g_iload_n (pc := 32) (pl := 1) X dX9_takes_32 rfl ?_
        refine g_iload_n (pc := 33) (pl := 2) X dX9_takes_33 rfl ?_
        refine g_iload_n (pc := 34) (pl := 3) X dX9_takes_34 rfl ?_
        refine gVv (pc := 35) (n2 := 0) (k2 := 0) X cs_X9_takes_128 (c_X9_remembers (zl K) D base y kp pd at' od fi la pc (owX f n a (b + 1)) n a b hq hn (by rw [owX_lo (by omega)]; omega) (by rw [owX_lo (by omega)]; omega)) rfl hO (by omega) ⟨hO, hNw⟩ rfl ⟨Nat.le_of_ble_eq_true rfl, Nat.le_of_ble_eq_true rfl⟩ dX9_takes_35 (Nat.le_of_ble_eq_true rfl) rfl rfl (fun H1 hp35 hs35 => ?_)
        obtain ⟨hOn, hNwn, hfr⟩ := hp35
        clear hO hNw
        have hO := hOn
        have hNw := hNwn
        refine g_vret (pc := 38) X R hH dX9_takes_38 ?_
        exact ⟨hO, hNw, (Fr.trans (h3.wide (by omega) (by omega)) (hfr.wide (by omega) (by omega)))⟩
      · skip
        refine g_aload_n (pc := 9) (pl := 0) X dX9_takes_9 rfl ?_
        refine g_getf (pc := 10) X zF_X9_takes_7 hO rfl dX9_takes_10 ?_
        refine g_bipush (pc := 13) X dX9_takes_13 (by decide +kernel) ?_
        refine g_iload (pc := 15) (pl := 4) X dX9_takes_15 rfl ?_
        refine g_iadd (pc := 17) X dX9_takes_17 ?_
        refine g_dup2 (pc := 18) X dX9_takes_18 rfl rfl ?_
        refine g_iaload (pc := 19) X hNw (by omega) (by omega) (by omega) dX9_takes_19 ?_
        rw [show (owX f n a x) (65 + x) = f (65 + x) from (if_neg (by omega))]
        refine g_iconst (pc := 20) X dX9_takes_20 ?_
        refine g_iload_n (pc := 21) (pl := 1) X dX9_takes_21 rfl ?_
        refine g_ishl (pc := 22) (z := J ((2 ^ n.toNat : Nat) : Int)) X dX9_takes_22 ((J_shl (by omega) (by omega)).trans (by rw [show (1 : Int).toNat = 1 from rfl, Nat.one_mul])) ?_
        have hox := how x (by omega) (by omega)
        refine g_ior (pc := 23) (z := J (addB (f (65 + x)) n)) X dX9_takes_23 ((J_or (by omega) (by first | exact Int.natCast_nonneg _ | exact Int.ofNat_nonneg _)).trans (by unfold addB; rw [Int.toNat_natCast])) ?_
        refine g_iastore (pc := 24) X hNw (by omega) (by omega) (by omega) (by omega) dX9_takes_24 (fun H1 hNwn hf1 => ?_)
        replace hO := hO.fr hf1 (by omega)
        replace hNw := hNwn
        clear hNwn
        refine g_iinc (pc := 25) (pl := 4) (x := x) (lv' := [(4, _), (0, _), (1, _), (2, _), (3, _)]) X dX9_takes_25 rfl (by decide) rfl ?_
        refine g_goto (pc := 28) X 3 dX9_takes_28 (by decide) ?_
        refine G.pick [1, 2, 3, 4, 0] (lv' := [(0, _), (1, _), (2, _), (3, _), (4, _)]) rfl ?_
        exact ih3 (x + 1) H1 (by omega) (by omega) hO (Ia.congr hNw (fun j _ _ => owX_step hx.1 j)) (Fr.trans (h3.wide (by omega) (by omega)) (hf1.wide (by omega) (by omega)))
  refine G.pick [1, 2, 3, 4, 0] (lv' := [(0, _), (1, _), (2, _), (3, _), (4, _)]) rfl ?_
  exact hL3 _ a H (Nat.lt_succ_self _) (by omega) hO (Ia.congr hNw (fun j _ _ => owX_0 j)) (Fr.refl _ _)

abbrev rm_X9_notes : Room := { frames := 2, cells := 0, slots := 0, locals := 50 }
theorem zF_X9_notes_7 : zF RX9 wsX9_notes 9 0 7 := ⟨RX9, TX9, 17, rfl, by decide +kernel, by decide, by decide +kernel⟩
theorem cs_X9_notes_131 : zCV RX9 wsX9_notes 131 9 yX9_takes wsX9_takes cX9_takes 5 none rm_X9_notes rm_X9_takes 3 := ⟨_, _, gX9_notes_X9_takes, rfl, ⟨by decide +kernel, by decide +kernel, by decide +kernel⟩, ⟨Nat.le_of_ble_eq_true rfl, Nat.le_of_ble_eq_true rfl⟩, rfl, rfl⟩
set_option maxRecDepth 100000 in
theorem c_X9_notes (l : Launch) (D : zD) (base : Nat) (y : Nat) (kp pd at' od fi la pc : Int) (f : Int → Int) (a b : Int) (hq : base ≤ y) (hI : PInv f) (hp : 0 ≤ a ∧ a ≤ b ∧ b < f 0) (h16 : f 1 < 16) : Ct l yX9_notes wsX9_notes rm_X9_notes D base [.ref y, .int (J a), .int (J b)] (fun H => MoO D y kp pd at' od fi la pc H ∧ NwAt D y f H) (PI (fun H v H1 => f 1 = v ∧ MoO D y kp pd at' od fi la pc H1 ∧ NwAt D y (ntX f a b) H1 ∧ Fr (Iv (y + 1) (y + 2)) 0 H H1)) := by
  refine Ct.of (own := RX9) (cc := cX9_notes) (maxL := 6) (by decide +kernel) rfl (Nat.le_of_ble_eq_true rfl) rfl ?_
  intro K H X R hH hnm hP
  show G K 0 0 H 0 [(0, .ref y), (1, .int (J a)), (2, .int (J b))] []
  obtain ⟨hO, hNw⟩ := hP
  have hnum := hI.nums
  have w0 : (wdX (up (up f (125 + 80 * f 1 + 0) (-6)) (125 + 80 * f 1 + 1) (b - a + 1)) (f 1) a (b + 1)) 0 = f 0 := ((if_neg (by omega)).trans ((if_neg (by omega)).trans (if_neg (by omega))))
  have w2 : (wdX (up (up f (125 + 80 * f 1 + 0) (-6)) (125 + 80 * f 1 + 1) (b - a + 1)) (f 1) a (b + 1)) 2 = f 2 := ((if_neg (by omega)).trans ((if_neg (by omega)).trans (if_neg (by omega))))
  refine g_aload_n (pc := 0) (pl := 0) X dX9_notes_0 rfl ?_
  refine g_getf (pc := 1) X zF_X9_notes_7 hO rfl dX9_notes_1 ?_
  refine g_iconst (pc := 4) X dX9_notes_4 ?_
  refine g_iaload (pc := 5) X hNw (by omega) (by omega) (by omega) dX9_notes_5 ?_
  refine g_istore_n (pc := 6) (lv' := [(3, _), (0, _), (1, _), (2, _)]) X dX9_notes_6 (by decide) rfl ?_
  refine g_bipush (pc := 7) X dX9_notes_7 (by decide +kernel) ?_
  refine g_bipush (pc := 9) X dX9_notes_9 (by decide +kernel) ?_
  refine g_iload_n (pc := 11) (pl := 0) X dX9_notes_11 rfl ?_
  refine g_imul (pc := 12) X dX9_notes_12 ?_
  refine g_iadd (pc := 13) X dX9_notes_13 ?_
  refine g_istore (pc := 14) (lv' := [(4, _), (3, _), (0, _), (1, _), (2, _)]) X dX9_notes_14 (by decide) rfl ?_
  refine g_aload_n (pc := 16) (pl := 2) X dX9_notes_16 rfl ?_
  refine g_getf (pc := 17) X zF_X9_notes_7 hO rfl dX9_notes_17 ?_
  refine g_iload (pc := 20) (pl := 0) X dX9_notes_20 rfl ?_
  refine g_iconst (pc := 22) X dX9_notes_22 ?_
  refine g_iadd (pc := 23) X dX9_notes_23 ?_
  refine g_bipush (pc := 24) X dX9_notes_24 (by decide +kernel) ?_
  refine g_iastore (pc := 26) X hNw (by omega) (by omega) (by omega) (by omega) dX9_notes_26 (fun H1 hNwn hf1 => ?_)
  replace hO := hO.fr hf1 (by omega)
  replace hNw := hNwn
  clear hNwn
  refine g_aload_n (pc := 27) (pl := 2) X dX9_notes_27 rfl ?_
  refine g_getf (pc := 28) X zF_X9_notes_7 hO rfl dX9_notes_28 ?_
  refine g_iload (pc := 31) (pl := 0) X dX9_notes_31 rfl ?_
  refine g_iconst (pc := 33) X dX9_notes_33 ?_
  refine g_iadd (pc := 34) X dX9_notes_34 ?_
  refine g_iload_n (pc := 35) (pl := 4) X dX9_notes_35 rfl ?_
  refine g_iload_n (pc := 36) (pl := 3) X dX9_notes_36 rfl ?_
  refine g_isub (pc := 37) X dX9_notes_37 ?_
  refine g_iconst (pc := 38) X dX9_notes_38 ?_
  refine g_iadd (pc := 39) X dX9_notes_39 ?_
  refine g_iastore (pc := 40) X hNw (by omega) (by omega) (by omega) (by omega) dX9_notes_40 (fun H2 hNwn hf2 => ?_)
  replace hO := hO.fr hf2 (by omega)
  replace hNw := hNwn
  clear hNwn
  refine g_iload_n (pc := 41) (pl := 3) X dX9_notes_41 rfl ?_
  refine g_istore (pc := 42) (lv' := [(5, _), (4, _), (3, _), (0, _), (1, _), (2, _)]) X dX9_notes_42 (by decide) rfl ?_
  have hL44 : ∀ (fu : Nat) (x : Int) (Hx : Heap), (b + 1 - x).toNat < fu → (a ≤ x ∧ x ≤ b + 1) → (MoO D y kp pd at' od fi la pc Hx) → (NwAt D y (wdX (up (up f (125 + 80 * f 1 + 0) (-6)) (125 + 80 * f 1 + 1) (b - a + 1)) (f 1) a x) Hx) → (Fr (Iv (y + 1) (y + 2)) 0 H Hx) → G K 0 0 Hx 44 [(0, .ref y), (1, .int (J a)), (2, .int (J b)), (3, .int (J (f 1))), (4, .int (J (125 + 80 * f 1))), (5, .int (J x))] [] := by
    intro fu
    induction fu with
    | zero => intro x Hx hm; exact absurd hm (Nat.not_lt_zero _)
    | succ fu ih44 =>
      intro x Hx hm hx hO hNw h3
      refine g_iload (pc := 44) (pl := 5) X dX9_notes_44 rfl ?_
      refine g_iload_n (pc := 46) (pl := 2) X dX9_notes_46 rfl ?_
      refine g_icmp_gt (pc := 47) X 79 dX9_notes_47 (by decide) (by omega) (by omega) (fun c47 => ?_) (fun c47 => ?_)
      · skip
        have ex : x = b + 1 := by omega
        rw [ex] at hNw
        refine g_aload_n (pc := 79) (pl := 0) X dX9_notes_79 rfl ?_
        refine g_iload_n (pc := 80) (pl := 3) X dX9_notes_80 rfl ?_
        refine g_iload_n (pc := 81) (pl := 1) X dX9_notes_81 rfl ?_
        refine g_iload_n (pc := 82) (pl := 2) X dX9_notes_82 rfl ?_
        refine gVv (pc := 83) (n2 := 0) (k2 := 0) X cs_X9_notes_131 (c_X9_takes (zl K) D base y kp pd at' od fi la pc (wdX (up (up f (125 + 80 * f 1 + 0) (-6)) (125 + 80 * f 1 + 1) (b - a + 1)) (f 1) a (b + 1)) (f 1) a b hq (by omega) (by rw [w0]; omega) (by rw [w2]; omega) (fun j j0 j1 => by rw [w0] at j1; rw [show (wdX (up (up f (125 + 80 * f 1 + 0) (-6)) (125 + 80 * f 1 + 1) (b - a + 1)) (f 1) a (b + 1)) (65 + j) = f (65 + j) from ((if_neg (by omega)).trans ((if_neg (by omega)).trans (if_neg (by omega))))]; exact hI.own j j0 j1)) rfl hO (by omega) ⟨hO, hNw⟩ rfl ⟨Nat.le_of_ble_eq_true rfl, Nat.le_of_ble_eq_true rfl⟩ dX9_notes_83 (Nat.le_of_ble_eq_true rfl) rfl rfl (fun H3 hp83 hs83 => ?_)
        obtain ⟨hOn, hNwn, hfr⟩ := hp83
        clear hO hNw
        have hO := hOn
        have hNw := hNwn
        refine g_aload_n (pc := 86) (pl := 0) X dX9_notes_86 rfl ?_
        refine g_getf (pc := 87) X zF_X9_notes_7 hO rfl dX9_notes_87 ?_
        refine g_iconst (pc := 90) X dX9_notes_90 ?_
        refine g_dup2 (pc := 91) X dX9_notes_91 rfl rfl ?_
        refine g_iaload (pc := 92) X hNw (by omega) (by omega) (by omega) dX9_notes_92 ?_
        rw [show (tkX (wdX (up (up f (125 + 80 * f 1 + 0) (-6)) (125 + 80 * f 1 + 1) (b - a + 1)) (f 1) a (b + 1)) (f 1) a b) 1 = f 1 from ((tkX_at (F := (wdX (up (up f (125 + 80 * f 1 + 0) (-6)) (125 + 80 * f 1 + 1) (b - a + 1)) (f 1) a (b + 1))) (n := f 1) (a := a) (b := b) (by omega) (by rw [w0]; omega) (by rw [w2]; omega)).1 1 (by omega)).trans ((if_neg (by omega)).trans ((if_neg (by omega)).trans (if_neg (by omega))))]
        refine g_iconst (pc := 93) X dX9_notes_93 ?_
        refine g_iadd (pc := 94) X dX9_notes_94 ?_
        refine g_iastore (pc := 95) X hNw (by omega) (by omega) (by omega) (by omega) dX9_notes_95 (fun H4 hNwn hf4 => ?_)
        replace hO := hO.fr hf4 (by omega)
        replace hNw := hNwn
        clear hNwn
        refine g_iload_n (pc := 96) (pl := 3) X dX9_notes_96 rfl ?_
        refine g_iret (pc := 97) X R hH dX9_notes_97 ?_
        exact ⟨rfl, hO, hNw, (Fr.trans (h3.wide (by omega) (by omega)) (Fr.trans (hfr.wide (by omega) (by omega)) (hf4.wide (by omega) (by omega))))⟩
      · skip
        refine g_aload_n (pc := 50) (pl := 0) X dX9_notes_50 rfl ?_
        refine g_getf (pc := 51) X zF_X9_notes_7 hO rfl dX9_notes_51 ?_
        refine g_iload (pc := 54) (pl := 4) X dX9_notes_54 rfl ?_
        refine g_iconst (pc := 56) X dX9_notes_56 ?_
        refine g_iadd (pc := 57) X dX9_notes_57 ?_
        refine g_iload (pc := 58) (pl := 5) X dX9_notes_58 rfl ?_
        refine g_iadd (pc := 60) X dX9_notes_60 ?_
        refine g_iload_n (pc := 61) (pl := 1) X dX9_notes_61 rfl ?_
        refine g_isub (pc := 62) X dX9_notes_62 ?_
        refine g_aload_n (pc := 63) (pl := 0) X dX9_notes_63 rfl ?_
        refine g_getf (pc := 64) X zF_X9_notes_7 hO rfl dX9_notes_64 ?_
        refine g_iconst (pc := 67) X dX9_notes_67 ?_
        refine g_iload (pc := 68) (pl := 5) X dX9_notes_68 rfl ?_
        refine g_iadd (pc := 70) X dX9_notes_70 ?_
        refine g_iaload (pc := 71) X hNw (by omega) (by omega) (by omega) dX9_notes_71 ?_
        rw [show (wdX (up (up f (125 + 80 * f 1 + 0) (-6)) (125 + 80 * f 1 + 1) (b - a + 1)) (f 1) a x) (5 + x) = f (5 + x) from ((if_neg (by omega)).trans ((if_neg (by omega)).trans (if_neg (by omega))))]
        refine g_iastore (pc := 72) X hNw (by omega) (by omega) (by omega) (by omega) dX9_notes_72 (fun H3 hNwn hf3 => ?_)
        replace hO := hO.fr hf3 (by omega)
        replace hNw := hNwn
        clear hNwn
        refine g_iinc (pc := 73) (pl := 5) (x := x) (lv' := [(5, _), (0, _), (1, _), (2, _), (3, _), (4, _)]) X dX9_notes_73 rfl (by decide) rfl ?_
        refine g_goto (pc := 76) X 44 dX9_notes_76 (by decide) ?_
        refine G.pick [1, 2, 3, 4, 5, 0] (lv' := [(0, _), (1, _), (2, _), (3, _), (4, _), (5, _)]) rfl ?_
        exact ih44 (x + 1) H3 (by omega) (by omega) hO (Ia.congr hNw (fun j _ _ => wdX_step hx.1 (by omega) ((if_neg (by omega)).trans (if_neg (by omega))).symm j)) (Fr.trans (h3.wide (by omega) (by omega)) (hf3.wide (by omega) (by omega)))
  refine G.pick [3, 4, 5, 2, 1, 0] (lv' := [(0, _), (1, _), (2, _), (3, _), (4, _), (5, _)]) rfl ?_
  exact hL44 _ a H2 (Nat.lt_succ_self _) (by omega) hO (Ia.congr hNw (fun j _ _ => wdX_0 j)) (Fr.trans (hf1.wide (by omega) (by omega)) (hf2.wide (by omega) (by omega)))

abbrev rm_X9_note : Room := { frames := 4, cells := 0, slots := 0, locals := 88 }
theorem cs_X9_note_134 : zCV RX9 wsX9_note 134 9 yX9_mayNote wsX9_mayNote cX9_mayNote 4 (some .int) rm_X9_note rm_X9_mayNote 2 := ⟨_, _, gX9_note_X9_mayNote, rfl, ⟨by decide +kernel, by decide +kernel, by decide +kernel⟩, ⟨Nat.le_of_ble_eq_true rfl, Nat.le_of_ble_eq_true rfl⟩, rfl, rfl⟩
theorem cs_X9_note_57 : zCV RX9 wsX9_note 57 9 yX9_records wsX9_records cX9_records 2 none rm_X9_note rm_X9_records 0 := ⟨_, _, gX9_note_X9_records, rfl, ⟨by decide +kernel, by decide +kernel, by decide +kernel⟩, ⟨Nat.le_of_ble_eq_true rfl, Nat.le_of_ble_eq_true rfl⟩, rfl, rfl⟩
theorem cs_X9_note_137 : zCV RX9 wsX9_note 137 9 yX9_notes wsX9_notes cX9_notes 6 (some .int) rm_X9_note rm_X9_notes 2 := ⟨_, _, gX9_note_X9_notes, rfl, ⟨by decide +kernel, by decide +kernel, by decide +kernel⟩, ⟨Nat.le_of_ble_eq_true rfl, Nat.le_of_ble_eq_true rfl⟩, rfl, rfl⟩
set_option maxRecDepth 100000 in
theorem c_X9_note (l : Launch) (D : zD) (base : Nat) (y : Nat) (kp pd at' od fi la pc : Int) (f : Int → Int) (st : Int → Int → Int) (a b : Int) (hq : base ≤ y) (hI : PInv f) (hkp : 0 ≤ kp ∧ kp ≤ 6) (ha : rg a) (hb : rg b) : Ct l yX9_note wsX9_note rm_X9_note D base [.ref y, .int (J a), .int (J b)] (fun H => MoO D y kp pd at' od fi la pc H ∧ NwAt D y f H ∧ PaAt D y kp st H) (PI (fun H v H1 => ntR f a b = v ∧ (∃ f2 : Int → Int, MEq (ntG f a b) f2 ∧ NwAt D y f2 H1) ∧ MoO D y (hsN kp (ntR f a b)) pd at' od fi la pc H1 ∧ PaAt D y (hsN kp (ntR f a b)) (hsS kp (ntR f a b) st f) H1 ∧ Fr (Iv y (y + 3)) 0 H H1)) := by
  refine Ct.of (own := RX9) (cc := cX9_note) (maxL := 4) (by decide +kernel) rfl (Nat.le_of_ble_eq_true rfl) rfl ?_
  intro K H X R hH hnm hP
  show G K 0 0 H 0 [(0, .ref y), (1, .int (J a)), (2, .int (J b))] []
  obtain ⟨hO, hNw, hPa⟩ := hP
  have hnum := hI.nums
  refine g_aload_n (pc := 0) (pl := 0) X dX9_note_0 rfl ?_
  refine g_iload_n (pc := 1) (pl := 1) X dX9_note_1 rfl ?_
  refine g_iload_n (pc := 2) (pl := 2) X dX9_note_2 rfl ?_
  refine gVi (pc := 3) (n2 := 0) (k2 := 0) X cs_X9_note_134 (c_X9_mayNote (zl K) D base y kp pd at' od fi la pc f a b hq hI ha hb) rfl hO (by omega) ⟨hO, hNw⟩ rfl ⟨Nat.le_of_ble_eq_true rfl, Nat.le_of_ble_eq_true rfl⟩ dX9_note_3 (Nat.le_of_ble_eq_true rfl) rfl rfl (fun v3 H1 hp3 hs3 => ?_)
  obtain ⟨rfl, hz⟩ := hp3
  have hm := ntR_may hz
  have hpe := perr_bd f a b
  refine g_istore_n (pc := 6) (lv' := [(3, _), (0, _), (1, _), (2, _)]) X dX9_note_6 (by decide) rfl ?_
  refine g_iload_n (pc := 7) (pl := 0) X dX9_note_7 rfl ?_
  refine g_if_eq (pc := 8) X 13 dX9_note_8 (by decide) (by omega) (fun c8 => ?_) (fun c8 => ?_)
  · skip
    refine g_aload_n (pc := 13) (pl := 1) X dX9_note_13 rfl ?_
    obtain ⟨ps, hPs, hst⟩ := id hPa
    refine gVv (pc := 14) (n2 := 0) (k2 := 0) X cs_X9_note_57 (c_X9_records (zl K) D base y kp pd at' od fi la pc f ps hq hkp) rfl hO (by omega) ⟨hO, hNw, hPs⟩ rfl ⟨Nat.le_of_ble_eq_true rfl, Nat.le_of_ble_eq_true rfl⟩ dX9_note_14 (Nat.le_of_ble_eq_true rfl) rfl rfl (fun H1 hp14 hs14 => ?_)
    obtain ⟨hOn, hNwn, ⟨ps2, hPs2, hr2⟩, hfr⟩ := hp14
    have hPan : PaAt D y (hpN kp) (hpS kp st f) H1 := ⟨ps2, hPs2, hpS_rec hkp hst hr2⟩
    clear hO hNw hPa hPs
    have hO := hOn
    have hNw := hNwn
    have hPa := hPan
    clear hOn hNwn hPan hPs2
    refine g_aload_n (pc := 17) (pl := 1) X dX9_note_17 rfl ?_
    refine g_iload_n (pc := 18) (pl := 2) X dX9_note_18 rfl ?_
    refine g_iload_n (pc := 19) (pl := 3) X dX9_note_19 rfl ?_
    refine gVi (pc := 20) (n2 := 0) (k2 := 0) X cs_X9_note_137 (c_X9_notes (zl K) D base y (hpN kp) pd at' od fi la pc f a b hq hI (by omega) (by omega)) rfl hO (by omega) ⟨hO, hNw⟩ rfl ⟨Nat.le_of_ble_eq_true rfl, Nat.le_of_ble_eq_true rfl⟩ dX9_note_20 (Nat.le_of_ble_eq_true rfl) rfl rfl (fun v20 H2 hp20 hs20 => ?_)
    obtain ⟨hv20, hOn, hNwn, hfc⟩ := hp20
    subst hv20
    replace hO := hO.fr hfc (by omega)
    replace hPa := hPa.fr hfc (by omega)
    clear hO hNw
    have hO := hOn
    have hNw := hNwn
    refine g_iret (pc := 23) X R hH dX9_note_23 ?_
    have er : ntR f a b = f 1 := by omega
    have eg : ntG f a b = anG (up f 1 (f 1 + 1)) (f 1) a b := if_neg (by omega)
    rw [er, eg]
    rw [show hsN kp (f 1) = hpN kp from if_neg (by omega), show hsS kp (f 1) st f = hpS kp st f from if_neg (by omega)]
    exact ⟨rfl, ⟨_, ntX_eq hI (by omega) (by omega), hNw⟩, hO, hPa, (Fr.trans (hfr.wide (by omega) (by omega)) (hfc.wide (by omega) (by omega)))⟩
  · skip
    refine g_iload_n (pc := 11) (pl := 0) X dX9_note_11 rfl ?_
    refine g_iret (pc := 12) X R hH dX9_note_12 ?_
    have er : ntR f a b = v3 := by omega
    rw [er]
    rw [show hsN kp (v3) = kp from if_pos (by omega), show hsS kp (v3) st f = st from if_pos (by omega)]
    exact ⟨rfl, ⟨f, by rw [show ntG f a b = f from if_pos (by omega)]; exact MEq.refl _, hNw⟩, hO, hPa, Fr.refl _ _⟩

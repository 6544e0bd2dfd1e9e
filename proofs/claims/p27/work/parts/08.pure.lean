/-! bits of a set, as whole numbers -/
def btt (m n : Int) : Bool := m.toNat.testBit n.toNat
theorem J_nI (n : Nat) : nI n = J (n : Int) := J_nat n
theorem J_nI' {z : Int} (h : 0 ≤ z) : J z = nI z.toNat := by rw [J_nI, Int.toNat_of_nonneg h]
theorem z_sl : ∀ n, n < 32 → ((nI n &&& 31).toBitVec.smod 32).toNat = n := by decide +kernel
theorem z_and (a b : Nat) : nI a &&& nI b = nI (a &&& b) := by
  apply Int32.toBitVec_inj.1
  show BitVec.ofNat 32 a &&& BitVec.ofNat 32 b = BitVec.ofNat 32 (a &&& b)
  apply BitVec.eq_of_getLsbD_eq
  intro i hi
  simp [hi]
theorem z_or (a b : Nat) : nI a ||| nI b = nI (a ||| b) := by
  apply Int32.toBitVec_inj.1
  show BitVec.ofNat 32 a ||| BitVec.ofNat 32 b = BitVec.ofNat 32 (a ||| b)
  apply BitVec.eq_of_getLsbD_eq
  intro i hi
  simp [hi]
/-- the set moved down -/
theorem J_shr {m n : Int} (hm : 0 ≤ m ∧ m < 2147483648) (hn : 0 ≤ n ∧ n < 32) : J m >>> (J n &&& 31) = J ((m.toNat / 2 ^ n.toNat : Nat) : Int) := by
  rw [J_nI' hm.1, J_nI' hn.1, pk_shrN (by omega) _ n.toNat (z_sl _ (by omega)), J_nI]
theorem J_shl {a n : Int} (ha : 0 ≤ a ∧ a < 65536) (hn : 0 ≤ n ∧ n < 16) : J a <<< (J n &&& 31) = J ((a.toNat * 2 ^ n.toNat : Nat) : Int) := by
  have h1 : 2 ^ n.toNat ≤ 2 ^ 15 := Nat.pow_le_pow_right (by decide) (by omega)
  have h2 : a.toNat * 2 ^ n.toNat ≤ 65535 * 2 ^ 15 := Nat.mul_le_mul (by omega) h1
  rw [J_nI' ha.1, J_nI' hn.1, pk_shlN _ n.toNat (z_sl _ (by omega)) (by omega), J_nI]
theorem J_and {a b : Int} (ha : 0 ≤ a) (hb : 0 ≤ b) : J a &&& J b = J ((a.toNat &&& b.toNat : Nat) : Int) := by
  rw [J_nI' ha, J_nI' hb, z_and, J_nI]
theorem J_or {a b : Int} (ha : 0 ≤ a) (hb : 0 ≤ b) : J a ||| J b = J ((a.toNat ||| b.toNat : Nat) : Int) := by
  rw [J_nI' ha, J_nI' hb, z_or, J_nI]
theorem btt_div (m n : Int) : ((((m.toNat / 2 ^ n.toNat : Nat) : Int).toNat &&& (1 : Int).toNat : Nat) : Int) = if btt m n then 1 else 0 := by
  show ((((m.toNat / 2 ^ n.toNat : Nat) : Int).toNat &&& 1 : Nat) : Int) = _
  rw [Int.toNat_natCast, Nat.and_one_is_mod]
  unfold btt
  rw [Nat.testBit_eq_decide_div_mod_eq]
  by_cases c : m.toNat / 2 ^ n.toNat % 2 = 1
  · rw [c, if_pos (by simp)]; rfl
  · rw [if_neg (by simpa using c)]; omega
/-- what isIn answers -/
abbrev isin (m n : Int) : Prop := 0 ≤ n ∧ n < 16 ∧ btt m n = true
/-- which of a row's letters are a note's own -/
def ownb (f : Int → Int) (n : Int) : Int → Bool := fun i => decide (isin (f i) n)
/-- a row is gone through: pieces, letters, the piece that runs, the most letters of a piece, where that one ends -/
def scan (o : Int → Bool) : Nat → Int × Int × Int × Int × Int
  | 0 => (0, 0, 0, 0, -6)
  | p + 1 => match scan o p with
    | (a, b, r, m, e) => if o (p : Int) then (if r = 0 then a + 1 else a, b + 1, r + 1, if m < r + 1 then r + 1 else m, if m < r + 1 then (p : Int) else e) else (a, b, 0, m, e)
def scP (o : Int → Bool) (p : Nat) : Int := (scan o p).1
def scL (o : Int → Bool) (p : Nat) : Int := (scan o p).2.1
def scR (o : Int → Bool) (p : Nat) : Int := (scan o p).2.2.1
def scM (o : Int → Bool) (p : Nat) : Int := (scan o p).2.2.2.1
def scE (o : Int → Bool) (p : Nat) : Int := (scan o p).2.2.2.2
def scF (o : Int → Bool) (p : Nat) : Int := if scM o p = 0 then -6 else scE o p - scM o p + 1
theorem sc_0 (o : Int → Bool) : scP o 0 = 0 ∧ scL o 0 = 0 ∧ scR o 0 = 0 ∧ scM o 0 = 0 ∧ scE o 0 = -6 ∧ scF o 0 = -6 := ⟨rfl, rfl, rfl, rfl, rfl, rfl⟩
theorem sc_no {o : Int → Bool} {p : Nat} (h : ¬ o (p : Int) = true) : scP o (p + 1) = scP o p ∧ scL o (p + 1) = scL o p ∧ scR o (p + 1) = 0 ∧ scM o (p + 1) = scM o p ∧ scE o (p + 1) = scE o p := by
  unfold scP scL scR scM scE
  simp only [scan]
  rw [if_neg h]
  exact ⟨rfl, rfl, rfl, rfl, rfl⟩
theorem sc_yes {o : Int → Bool} {p : Nat} (h : o (p : Int) = true) : scP o (p + 1) = (if scR o p = 0 then scP o p + 1 else scP o p) ∧ scL o (p + 1) = scL o p + 1 ∧ scR o (p + 1) = scR o p + 1 ∧ scM o (p + 1) = (if scM o p < scR o p + 1 then scR o p + 1 else scM o p) ∧ scE o (p + 1) = (if scM o p < scR o p + 1 then (p : Int) else scE o p) := by
  unfold scP scL scR scM scE
  simp only [scan]
  rw [if_pos h]
  exact ⟨rfl, rfl, rfl, rfl, rfl⟩
theorem sc_bd (o : Int → Bool) : ∀ p : Nat, 0 ≤ scP o p ∧ scP o p ≤ scL o p ∧ scL o p ≤ p ∧ 0 ≤ scR o p ∧ scR o p ≤ scM o p ∧ scM o p ≤ scL o p ∧ (scM o p = 0 → scE o p = -6) ∧ (0 < scM o p → scM o p ≤ scE o p + 1 ∧ scE o p < p) ∧ (0 < scL o p → 0 < scM o p ∧ 0 < scP o p) := by
  intro p
  induction p with
  | zero => simp [sc_0]
  | succ p ih =>
    obtain ⟨h1, h2, h3, h4, h5, h6, h7, h8, h9⟩ := ih
    by_cases c : o (p : Int) = true
    · obtain ⟨e1, e2, e3, e4, e5⟩ := sc_yes c
      rw [e1, e2, e3, e4, e5]
      by_cases c1 : scM o p < scR o p + 1
      · rw [if_pos c1, if_pos c1]
        by_cases c2 : scR o p = 0
        · rw [if_pos c2]; refine ⟨?_, ?_, ?_, ?_, ?_, ?_, ?_, ?_, ?_⟩ <;> omega
        · rw [if_neg c2]; refine ⟨?_, ?_, ?_, ?_, ?_, ?_, ?_, ?_, ?_⟩ <;> omega
      · rw [if_neg c1, if_neg c1]
        by_cases c2 : scR o p = 0
        · rw [if_pos c2]; refine ⟨?_, ?_, ?_, ?_, ?_, ?_, ?_, ?_, ?_⟩ <;> omega
        · rw [if_neg c2]; refine ⟨?_, ?_, ?_, ?_, ?_, ?_, ?_, ?_, ?_⟩ <;> omega
    · obtain ⟨e1, e2, e3, e4, e5⟩ := sc_no c
      rw [e1, e2, e3, e4, e5]
      refine ⟨?_, ?_, ?_, ?_, ?_, ?_, ?_, ?_, ?_⟩ <;> omega
theorem scF_no {o : Int → Bool} {p : Nat} (h : ¬ o (p : Int) = true) : scF o (p + 1) = scF o p := by
  obtain ⟨e1, e2, e3, e4, e5⟩ := sc_no h
  unfold scF
  rw [e4, e5]
theorem scF_yes {o : Int → Bool} {p : Nat} (h : o (p : Int) = true) : scF o (p + 1) = if scM o p < scR o p + 1 then (p : Int) - scR o p else scF o p := by
  obtain ⟨e1, e2, e3, e4, e5⟩ := sc_yes h
  have hb := sc_bd o p
  unfold scF
  rw [e4, e5]
  by_cases c : scM o p < scR o p + 1
  · rw [if_pos c, if_pos c, if_pos c, if_neg (by omega)]; omega
  · rw [if_neg c, if_neg c, if_neg c]
theorem scan_congr {o o' : Int → Bool} : ∀ {p : Nat}, (∀ i : Int, 0 ≤ i → i < p → o i = o' i) → scan o p = scan o' p
  | 0, _ => rfl
  | p + 1, h => by
    simp only [scan]
    rw [scan_congr (fun i h0 h1 => h i h0 (by omega)), h p (by omega) (by omega)]
/-- how many of the first ones hold, one after the other -/
def lead (P : Int → Bool) : Nat → Nat
  | 0 => 0
  | k + 1 => if lead P k = k ∧ P (k : Int) = true then k + 1 else lead P k
theorem lead_le (P : Int → Bool) : ∀ n, lead P n ≤ n
  | 0 => Nat.le_refl 0
  | n + 1 => by
    have h := lead_le P n
    simp only [lead]
    split <;> omega
theorem lead_all (P : Int → Bool) : ∀ n (i : Int), 0 ≤ i → i < lead P n → P i = true
  | 0, i, h0, h => by simp only [lead] at h; omega
  | n + 1, i, h0, h => by
    simp only [lead] at h
    split at h
    · next c =>
      by_cases c2 : i = n
      · rw [c2]; exact c.2
      · exact lead_all P n i h0 (by omega)
    · exact lead_all P n i h0 h
theorem lead_stop (P : Int → Bool) : ∀ n, lead P n < n → ¬ P (lead P n : Int) = true
  | 0, h => absurd h (Nat.not_lt_zero _)
  | n + 1, h => by
    simp only [lead] at h ⊢
    split at h
    · omega
    · next c =>
      rw [if_neg c]
      have h1 := lead_le P n
      by_cases c2 : lead P n < n
      · exact lead_stop P n c2
      · have e : lead P n = n := by omega
        rw [e]
        exact fun q => c ⟨e, q⟩
theorem lead_eq {P : Int → Bool} {n : Nat} {c : Int} (h0 : 0 ≤ c) (h1 : c ≤ n) (h2 : ∀ i : Int, 0 ≤ i → i < c → P i = true) (h3 : c = n ∨ ¬ P c = true) : c = (lead P n : Int) := by
  have a1 := lead_le P n
  have a2 := lead_all P n
  have a3 := lead_stop P n
  rcases Int.lt_trichotomy c (lead P n : Int) with q | q | q
  · rcases h3 with h | h
    · omega
    · exact absurd (a2 c h0 q) h
  · exact q
  · exact absurd (h2 _ (by omega) q) (a3 (by omega))
theorem lead_congr {P P' : Int → Bool} : ∀ {n : Nat}, (∀ i : Int, 0 ≤ i → i < n → P i = P' i) → lead P n = lead P' n
  | 0, _ => rfl
  | n + 1, h => by
    simp only [lead]
    rw [lead_congr (fun i h0 h1 => h i h0 (by omega)), h n (by omega) (by omega)]
/-- the places at which something could stand: the best one, how good, how many -/
def best (ok : Int → Bool) (lk : Int → Int) : Nat → Int × Int × Int
  | 0 => (-6, -6, 0)
  | p + 1 => match best ok lk p with
    | (a, b, c) => if ok (p : Int) then (if c = 0 ∨ b < lk (p : Int) then (p : Int) else a, if c = 0 ∨ b < lk (p : Int) then lk (p : Int) else b, c + 1) else (a, b, c)
theorem best_congr {ok ok' : Int → Bool} {lk lk' : Int → Int} : ∀ {p : Nat}, (∀ i : Int, 0 ≤ i → i < p → ok i = ok' i ∧ (ok i = true → lk i = lk' i)) → best ok lk p = best ok' lk' p
  | 0, _ => rfl
  | p + 1, h => by
    have h1 := h p (by omega) (by omega)
    simp only [best]
    rw [best_congr (fun i h0 h1 => h i h0 (by omega)), ← h1.1]
    by_cases c : ok (p : Int) = true
    · rw [h1.2 c]
    · rw [if_neg c, if_neg c]
theorem best_bd (ok : Int → Bool) (lk : Int → Int) (h : ∀ i, 0 ≤ lk i ∧ lk i ≤ 1000) : ∀ p : Nat, 0 ≤ (best ok lk p).2.2 ∧ (best ok lk p).2.2 ≤ p ∧ ((best ok lk p).2.2 = 0 → (best ok lk p).1 = -6 ∧ (best ok lk p).2.1 = -6) ∧ (0 < (best ok lk p).2.2 → 0 ≤ (best ok lk p).1 ∧ (best ok lk p).1 < p ∧ 0 ≤ (best ok lk p).2.1 ∧ (best ok lk p).2.1 ≤ 1000 ∧ ok (best ok lk p).1 = true)
  | 0 => by simp [best]
  | p + 1 => by
    have ih := best_bd ok lk h p
    have hl := h (p : Int)
    simp only [best]
    generalize best ok lk p = s at ih ⊢
    obtain ⟨a, b, c⟩ := s
    dsimp only at ih ⊢
    by_cases q : ok (p : Int) = true
    · rw [if_pos q]
      dsimp only
      by_cases q2 : c = 0 ∨ b < lk (p : Int)
      · rw [if_pos q2, if_pos q2]
        exact ⟨by omega, by omega, fun z => by omega, fun z => ⟨by omega, by omega, by omega, by omega, q⟩⟩
      · rw [if_neg q2, if_neg q2]
        have h2 := ih.2.2.2 (by omega)
        exact ⟨by omega, by omega, fun z => by omega, fun z => ⟨by omega, by omega, by omega, by omega, h2.2.2.2.2⟩⟩
    · rw [if_neg q]
      dsimp only
      exact ⟨by omega, by omega, ih.2.2.1, fun z => by have h2 := ih.2.2.2 z; exact ⟨by omega, by omega, by omega, by omega, h2.2.2.2.2⟩⟩
/-- how many there are of which something holds -/
def cnt (P : Int → Bool) : Nat → Int
  | 0 => 0
  | k + 1 => cnt P k + if P (k : Int) then 1 else 0
theorem cnt_congr {P P' : Int → Bool} : ∀ {n : Nat}, (∀ i : Int, 0 ≤ i → i < n → P i = P' i) → cnt P n = cnt P' n
  | 0, _ => rfl
  | n + 1, h => by
    simp only [cnt]
    rw [cnt_congr (fun i h0 h1 => h i h0 (by omega)), h n (by omega) (by omega)]
theorem cnt_bd (P : Int → Bool) : ∀ n : Nat, 0 ≤ cnt P n ∧ cnt P n ≤ n
  | 0 => ⟨Int.le_refl 0, Int.le_refl 0⟩
  | n + 1 => by
    have h := cnt_bd P n
    simp only [cnt]
    split <;> omega
theorem best_no {ok : Int → Bool} {lk : Int → Int} {p : Nat} (h : ¬ ok (p : Int) = true) : best ok lk (p + 1) = best ok lk p := by
  simp only [best]
  rw [if_neg h]
theorem best_yes {ok : Int → Bool} {lk : Int → Int} {p : Nat} (h : ok (p : Int) = true) : (best ok lk (p + 1)).1 = (if (best ok lk p).2.2 = 0 ∨ (best ok lk p).2.1 < lk (p : Int) then (p : Int) else (best ok lk p).1) ∧ (best ok lk (p + 1)).2.1 = (if (best ok lk p).2.2 = 0 ∨ (best ok lk p).2.1 < lk (p : Int) then lk (p : Int) else (best ok lk p).2.1) ∧ (best ok lk (p + 1)).2.2 = (best ok lk p).2.2 + 1 := by
  simp only [best]
  rw [if_pos h]
  exact ⟨rfl, rfl, rfl⟩
theorem best_stop {ok : Int → Bool} {lk : Int → Int} {k : Nat} : ∀ m : Nat, k ≤ m → (∀ i : Int, k ≤ i → i < m → ¬ ok i = true) → best ok lk m = best ok lk k
  | 0, h, _ => by rw [Nat.le_zero.mp h]
  | m + 1, h, hn => by
    rcases Nat.lt_or_ge m k with c | c
    · rw [show k = m + 1 by omega]
    · rw [best_no (hn m (by omega) (by omega))]
      exact best_stop m c (fun i h0 h1 => hn i h0 (by omega))
/-- how many of a row look like those of another, from a place on, by steps -/
def alk (n : Int) (f : Int → Int) (A E : Int) (W : Int → Int) (m : Int) : Int := (lead (fun i => decide (itm n f (A + i * E) = W i)) m.toNat : Int)
theorem alk_bd (n : Int) (f : Int → Int) (A E : Int) (W : Int → Int) {m : Int} (hm : 0 ≤ m) : 0 ≤ alk n f A E W m ∧ alk n f A E W m ≤ m := by
  have h := lead_le (fun i => decide (itm n f (A + i * E) = W i)) m.toNat
  unfold alk
  omega
theorem alk_of {n : Int} {f : Int → Int} {A E : Int} {W : Int → Int} {m v : Int} (h0 : 0 ≤ v) (h1 : v ≤ m) (h2 : ∀ i : Int, 0 ≤ i → i < v → itm n f (A + i * E) = W i) (h3 : v = m ∨ ¬ itm n f (A + v * E) = W v) : v = alk n f A E W m := by
  refine lead_eq h0 (by omega) (fun i a b => decide_eq_true (h2 i a b)) ?_
  rcases h3 with h | h
  · left; omega
  · right; exact fun q => h (of_decide_eq_true q)
theorem alk_all {n : Int} {f : Int → Int} {A E : Int} {W : Int → Int} {m : Int} (h : alk n f A E W m = m) : ∀ i : Int, 0 ≤ i → i < m → itm n f (A + i * E) = W i := by
  intro i h0 h1
  unfold alk at h
  have h2 := lead_all (fun i => decide (itm n f (A + i * E) = W i)) m.toNat i h0 (by omega)
  exact of_decide_eq_true h2
theorem alk_congr {n n' : Int} {f f' : Int → Int} {A E : Int} {W W' : Int → Int} {m : Int} (h : ∀ i : Int, 0 ≤ i → i < m → (itm n f (A + i * E) = W i ↔ itm n' f' (A + i * E) = W' i)) : alk n f A E W m = alk n' f' A E W' m := by
  unfold alk
  rw [lead_congr (P' := fun i => decide (itm n' f' (A + i * E) = W' i)) (fun i h0 h1 => by rw [decide_eq_decide]; exact h i h0 (by omega))]
def okS (n : Int) (f : Int → Int) (wl : Int) (w : Int → Int) : Int → Bool := fun p => decide (alk n f p 1 w wl = wl)
def lkS (n : Int) (f : Int → Int) (wl al bl : Int) (a b : Int → Int) : Int → Int := fun p => alk n f (p - 1) (-1) a al + alk n f (p + wl) 1 b bl
theorem okS_in {n : Int} {f : Int → Int} {wl : Int} {w : Int → Int} {p : Int} (h : okS n f wl w p = true) (hw : 1 ≤ wl) (hp : ∀ i : Int, 0 ≤ i → i < wl → 0 ≤ w i) : 0 ≤ p ∧ p + wl ≤ n := by
  have h1 := alk_all (of_decide_eq_true h)
  have e1 := h1 0 (by omega) (by omega)
  have e2 := h1 (wl - 1) (by omega) (by omega)
  have q1 := hp 0 (by omega) (by omega)
  have q2 := hp (wl - 1) (by omega) (by omega)
  unfold itm at e1 e2
  split at e1
  · split at e2
    · omega
    · omega
  · omega


/-! counting -/
theorem cnt_s (P : Int → Bool) (k : Nat) : cnt P (k + 1) = cnt P k + if P (k : Int) then 1 else 0 := rfl
theorem cnt_add (P : Int → Bool) (a : Nat) : ∀ b : Nat, cnt P (a + b) = cnt P a + cnt (fun i => P ((a : Int) + i)) b
  | 0 => (Int.add_zero _).symm
  | b + 1 => by
    have ih := cnt_add P a b
    have e : ((a + b : Nat) : Int) = (a : Int) + (b : Int) := by omega
    rw [show a + (b + 1) = (a + b) + 1 by omega, cnt_s, cnt_s, ih, e, Int.add_assoc]
theorem cnt_mono {P Q : Int → Bool} : ∀ {n : Nat}, (∀ i : Int, 0 ≤ i → i < n → P i = true → Q i = true) → cnt P n ≤ cnt Q n
  | 0, _ => Int.le_refl 0
  | n + 1, h => by
    have ih := cnt_mono (P := P) (Q := Q) (n := n) (fun i h0 h1 => h i h0 (by omega))
    have hn := h n (by omega) (by omega)
    by_cases c : P (n : Int) = true
    · rw [cnt_yes c, cnt_yes (hn c)]; omega
    · rw [cnt_no c]
      by_cases d : Q (n : Int) = true
      · rw [cnt_yes d]; omega
      · rw [cnt_no d]; exact ih
theorem cnt_none {P : Int → Bool} : ∀ {n : Nat}, (∀ i : Int, 0 ≤ i → i < n → ¬ P i = true) → cnt P n = 0
  | 0, _ => rfl
  | n + 1, h => by rw [cnt_no (h n (by omega) (by omega))]; exact cnt_none (fun i h0 h1 => h i h0 (by omega))
theorem cnt_all0 {P : Int → Bool} : ∀ {n : Nat}, cnt P n = 0 → ∀ i : Int, 0 ≤ i → i < n → ¬ P i = true
  | 0, _, i, h0, h1 => by omega
  | n + 1, h, i, h0, h1 => by
    have hb := cnt_bd P n
    have c : ¬ P (n : Int) = true := fun c => by rw [cnt_yes c] at h; omega
    rw [cnt_no c] at h
    by_cases e : i = n
    · rw [e]; exact c
    · exact cnt_all0 h i h0 (by omega)
theorem cnt_pos {P : Int → Bool} {n : Nat} {i : Int} (h0 : 0 ≤ i) (h1 : i < n) (h : P i = true) : 0 < cnt P n := by
  have hb := cnt_bd P n
  by_cases c : cnt P n = 0
  · exact absurd h (cnt_all0 c i h0 h1)
  · omega
/-- two neighbours change their places -/
theorem cnt_exch {P Q : Int → Bool} (a u v w : Nat) (e1 : ∀ i : Int, 0 ≤ i → i < a → Q i = P i) (e2 : ∀ i : Int, 0 ≤ i → i < v → Q (a + i) = P (a + u + i)) (e3 : ∀ i : Int, 0 ≤ i → i < u → Q (a + v + i) = P (a + i)) (e4 : ∀ i : Int, 0 ≤ i → i < w → Q (a + u + v + i) = P (a + u + v + i)) : cnt Q (a + u + v + w) = cnt P (a + u + v + w) := by
  have q1 : cnt Q a = cnt P a := cnt_congr e1
  have q2 : cnt (fun i => Q ((a : Int) + i)) v = cnt (fun i => P (((a + u : Nat) : Int) + i)) v := cnt_congr (fun i h0 h1 => by
    show Q ((a : Int) + i) = P (((a + u : Nat) : Int) + i)
    rw [e2 i h0 h1, show ((a + u : Nat) : Int) = (a : Int) + u by omega])
  have q3 : cnt (fun i => Q (((a + v : Nat) : Int) + i)) u = cnt (fun i => P ((a : Int) + i)) u := cnt_congr (fun i h0 h1 => by
    show Q (((a + v : Nat) : Int) + i) = P ((a : Int) + i)
    rw [← e3 i h0 h1, show ((a + v : Nat) : Int) = (a : Int) + v by omega])
  have q4 : cnt (fun i => Q (((a + u + v : Nat) : Int) + i)) w = cnt (fun i => P (((a + u + v : Nat) : Int) + i)) w := cnt_congr (fun i h0 h1 => by
    show Q (((a + u + v : Nat) : Int) + i) = P (((a + u + v : Nat) : Int) + i)
    rw [show ((a + u + v : Nat) : Int) = (a : Int) + u + v by omega]; exact e4 i h0 h1)
  have r1 := cnt_add Q (a + u + v) w
  have r2 := cnt_add Q (a + v) u
  have r3 := cnt_add Q a v
  have r4 := cnt_add P (a + u + v) w
  have r5 := cnt_add P (a + u) v
  have r6 := cnt_add P a u
  have r7 : cnt Q (a + u + v) = cnt Q (a + v + u) := by rw [show a + u + v = a + v + u by omega]
  omega
/-- one comes that isn't counted -/
theorem cnt_come {P Q : Int → Bool} (a w : Nat) (e1 : ∀ i : Int, 0 ≤ i → i < a → Q i = P i) (e2 : ¬ Q (a : Int) = true) (e3 : ∀ i : Int, 0 ≤ i → i < w → Q (a + 1 + i) = P (a + i)) : cnt Q (a + 1 + w) = cnt P (a + w) := by
  have q1 : cnt Q a = cnt P a := cnt_congr e1
  have q3 : cnt (fun i => Q (((a + 1 : Nat) : Int) + i)) w = cnt (fun i => P ((a : Int) + i)) w := cnt_congr (fun i h0 h1 => by
    show Q (((a + 1 : Nat) : Int) + i) = P ((a : Int) + i)
    rw [← e3 i h0 h1, show ((a + 1 : Nat) : Int) = (a : Int) + 1 by omega])
  have r1 := cnt_add Q (a + 1) w
  have r2 := cnt_add P a w
  have r3 := cnt_no e2
  omega
/-- some go -/
theorem cnt_go {P Q : Int → Bool} (a u w : Nat) (e1 : ∀ i : Int, 0 ≤ i → i < a → Q i = P i) (e3 : ∀ i : Int, 0 ≤ i → i < w → Q (a + i) = P (a + u + i)) : cnt Q (a + w) ≤ cnt P (a + u + w) := by
  have q1 : cnt Q a = cnt P a := cnt_congr e1
  have q3 : cnt (fun i => Q ((a : Int) + i)) w = cnt (fun i => P (((a + u : Nat) : Int) + i)) w := cnt_congr (fun i h0 h1 => by
    show Q ((a : Int) + i) = P (((a + u : Nat) : Int) + i)
    rw [e3 i h0 h1, show ((a + u : Nat) : Int) = (a : Int) + u by omega])
  have r1 := cnt_add Q a w
  have r2 := cnt_add P (a + u) w
  have r3 := cnt_add P a u
  have r4 := (cnt_bd (fun i => P ((a : Int) + i)) u).1
  omega
/-- those of a row of places -/
theorem cnt_range (a b : Int) (h0 : 0 ≤ a) (h1 : a ≤ b + 1) : ∀ N : Nat, cnt (fun j => decide (a ≤ j ∧ j ≤ b)) N ≤ b - a + 1 ∧ cnt (fun j => decide (a ≤ j ∧ j ≤ b)) N ≤ (if (N : Int) ≤ a then 0 else (N : Int) - a)
  | 0 => ⟨by have e : cnt (fun j => decide (a ≤ j ∧ j ≤ b)) 0 = 0 := rfl; omega, by have e : cnt (fun j => decide (a ≤ j ∧ j ≤ b)) 0 = 0 := rfl; rw [e]; split <;> omega⟩
  | N + 1 => by
    obtain ⟨i1, i2⟩ := cnt_range a b h0 h1 N
    by_cases c : a ≤ (N : Int) ∧ (N : Int) ≤ b
    · rw [cnt_yes (by show decide (a ≤ (N : Int) ∧ (N : Int) ≤ b) = true; exact decide_eq_true c)]
      have e : (if (N : Int) ≤ a then (0 : Int) else (N : Int) - a) = (N : Int) - a := by split <;> omega
      rw [e] at i2
      exact ⟨by omega, by split <;> omega⟩
    · rw [cnt_no (by show ¬ decide (a ≤ (N : Int) ∧ (N : Int) ≤ b) = true; exact fun q => c (of_decide_eq_true q))]
      refine ⟨i1, ?_⟩
      split at i2 <;> split <;> omega
theorem cnt_mvf (f : Int → Int) (B : Int → Bool) {a b p : Int} {N : Nat} (h : 0 ≤ a ∧ a ≤ b ∧ b < N) (hp : 0 ≤ p ∧ p ≤ N - (b - a + 1)) : cnt (fun i => B (mvf f a b p i)) N = cnt (fun i => B (f i)) N := by
  obtain ⟨A, hA⟩ : ∃ A : Nat, a = (A : Int) := ⟨a.toNat, by omega⟩
  obtain ⟨P, hP⟩ : ∃ P : Nat, p = (P : Int) := ⟨p.toNat, by omega⟩
  by_cases c : p < a
  · obtain ⟨u, hu⟩ : ∃ u : Nat, a = p + (u : Int) := ⟨(a - p).toNat, by omega⟩
    obtain ⟨v, hv⟩ : ∃ v : Nat, b + 1 = a + (v : Int) := ⟨(b + 1 - a).toNat, by omega⟩
    obtain ⟨w, hw⟩ : ∃ w : Nat, (N : Int) = b + 1 + (w : Int) := ⟨((N : Int) - b - 1).toNat, by omega⟩
    have hN : N = P + u + v + w := by omega
    rw [hN]
    refine cnt_exch P u v w (fun i h0 h1 => ?_) (fun i h0 h1 => ?_) (fun i h0 h1 => ?_) (fun i h0 h1 => ?_)
    · show B (mvf f a b p i) = B (f i)
      refine congrArg B ?_
      unfold mvf
      (repeat' split) <;> first | rfl | (exfalso; omega) | (congr 1; omega)
    · show B (mvf f a b p ((P : Int) + i)) = B (f ((P : Int) + u + i))
      refine congrArg B ?_
      unfold mvf
      (repeat' split) <;> first | rfl | (exfalso; omega) | (congr 1; omega)
    · show B (mvf f a b p ((P : Int) + v + i)) = B (f ((P : Int) + i))
      refine congrArg B ?_
      unfold mvf
      (repeat' split) <;> first | rfl | (exfalso; omega) | (congr 1; omega)
    · show B (mvf f a b p ((P : Int) + u + v + i)) = B (f ((P : Int) + u + v + i))
      refine congrArg B ?_
      unfold mvf
      (repeat' split) <;> first | rfl | (exfalso; omega) | (congr 1; omega)
  · obtain ⟨u, hu⟩ : ∃ u : Nat, b + 1 = a + (u : Int) := ⟨(b + 1 - a).toNat, by omega⟩
    obtain ⟨v, hv⟩ : ∃ v : Nat, p = a + (v : Int) := ⟨(p - a).toNat, by omega⟩
    obtain ⟨w, hw⟩ : ∃ w : Nat, (N : Int) = a + u + v + (w : Int) := ⟨((N : Int) - a - u - v).toNat, by omega⟩
    have hN : N = A + u + v + w := by omega
    rw [hN]
    refine cnt_exch A u v w (fun i h0 h1 => ?_) (fun i h0 h1 => ?_) (fun i h0 h1 => ?_) (fun i h0 h1 => ?_)
    · show B (mvf f a b p i) = B (f i)
      refine congrArg B ?_
      unfold mvf
      (repeat' split) <;> first | rfl | (exfalso; omega) | (congr 1; omega)
    · show B (mvf f a b p ((A : Int) + i)) = B (f ((A : Int) + u + i))
      refine congrArg B ?_
      unfold mvf
      (repeat' split) <;> first | rfl | (exfalso; omega) | (congr 1; omega)
    · show B (mvf f a b p ((A : Int) + v + i)) = B (f ((A : Int) + i))
      refine congrArg B ?_
      unfold mvf
      (repeat' split) <;> first | rfl | (exfalso; omega) | (congr 1; omega)
    · show B (mvf f a b p ((A : Int) + u + v + i)) = B (f ((A : Int) + u + v + i))
      refine congrArg B ?_
      unfold mvf
      (repeat' split) <;> first | rfl | (exfalso; omega) | (congr 1; omega)
/-! a row that is gone through -/
theorem scL_cnt (o : Int → Bool) : ∀ p : Nat, scL o p = cnt o p
  | 0 => rfl
  | p + 1 => by
    by_cases c : o (p : Int) = true
    · rw [(sc_yes c).2.1, cnt_yes c, scL_cnt o p]
    · rw [(sc_no c).2.1, cnt_no c, scL_cnt o p]
/-- the piece that runs and the longest one are its own -/
theorem sc_own (o : Int → Bool) : ∀ p : Nat, (∀ j : Int, (p : Int) - scR o p ≤ j → j < p → o j = true) ∧ (∀ j : Int, scE o p - scM o p < j → j ≤ scE o p → 0 < scM o p → o j = true)
  | 0 => ⟨fun j h0 h1 => by have e : scR o 0 = 0 := rfl; omega, fun j h0 h1 h2 => by have e : scM o 0 = 0 := rfl; omega⟩
  | p + 1 => by
    obtain ⟨i1, i2⟩ := sc_own o p
    by_cases c : o (p : Int) = true
    · obtain ⟨e1, e2, e3, e4, e5⟩ := sc_yes c
      have hb := sc_bd o p
      have r1 : ∀ j : Int, ((p + 1 : Nat) : Int) - scR o (p + 1) ≤ j → j < ((p + 1 : Nat) : Int) → o j = true := fun j h0 h1 => by
        by_cases z : j = p
        · rw [z]; exact c
        · exact i1 j (by omega) (by omega)
      refine ⟨r1, fun j h0 h1 h2 => ?_⟩
      rw [e4, e5] at h0
      rw [e5] at h1
      by_cases d : scM o p < scR o p + 1
      · rw [if_pos d] at h1
        rw [if_pos d, if_pos d] at h0
        exact r1 j (by omega) (by omega)
      · rw [if_neg d] at h1
        rw [if_neg d, if_neg d] at h0
        rw [e4, if_neg d] at h2
        exact i2 j h0 h1 h2
    · obtain ⟨e1, e2, e3, e4, e5⟩ := sc_no c
      refine ⟨fun j h0 h1 => ?_, fun j h0 h1 h2 => ?_⟩
      · rw [e3] at h0; omega
      · rw [e4, e5] at h0; rw [e5] at h1; rw [e4] at h2; exact i2 j h0 h1 h2
/-- where there is one piece it has all letters -/
theorem sc_one (o : Int → Bool) : ∀ p : Nat, (scP o p = 0 → scL o p = 0) ∧ (scP o p = 1 → scL o p = scM o p ∧ (scR o p = 0 ∨ scR o p = scM o p))
  | 0 => ⟨fun _ => rfl, fun h => ⟨rfl, Or.inl rfl⟩⟩
  | p + 1 => by
    obtain ⟨i1, i2⟩ := sc_one o p
    have hb := sc_bd o p
    by_cases c : o (p : Int) = true
    · obtain ⟨e1, e2, e3, e4, e5⟩ := sc_yes c
      rw [e1, e2, e3, e4]
      by_cases z : scR o p = 0
      · rw [if_pos z]
        refine ⟨fun h => by omega, fun h => ?_⟩
        have q := i1 (by omega)
        rw [if_pos (show scM o p < scR o p + 1 by omega)]
        exact ⟨by omega, Or.inr rfl⟩
      · rw [if_neg z]
        refine ⟨fun h => by have := i1 h; omega, fun h => ?_⟩
        have q := i2 h
        rw [if_pos (show scM o p < scR o p + 1 by omega)]
        exact ⟨by omega, Or.inr rfl⟩
    · obtain ⟨e1, e2, e3, e4, e5⟩ := sc_no c
      rw [e1, e2, e3, e4]
      exact ⟨i1, fun h => ⟨(i2 h).1, Or.inl rfl⟩⟩

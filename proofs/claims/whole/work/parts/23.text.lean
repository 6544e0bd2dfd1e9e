/-! texts: what is read from a place on -/
abbrev isD (c : Int) : Prop := 48 ≤ c ∧ c ≤ 57
abbrev isL (c : Int) : Prop := 97 ≤ c ∧ c ≤ 122
abbrev num2 (n : Int) (f : Int → Int) (p : Int) : Prop := ¬ itm n f p - 48 = 0 ∧ isD (itm n f (p + 1))
def numV (n : Int) (f : Int → Int) (p : Int) : Int := if num2 n f p then 10 * (itm n f p - 48) + itm n f (p + 1) - 48 else itm n f p - 48
def numE (n : Int) (f : Int → Int) (p : Int) : Int := if num2 n f p then p + 2 else p + 1
def ltE (n : Int) (f : Int → Int) (p : Int) : Int := p + (lead (fun i => decide (isL (itm n f (p + i)))) (n - p).toNat : Int)
abbrev numOk (n : Int) (f : Int → Int) (p : Int) : Prop := isD (itm n f p)
/-- where the first and second number of an order end -/
def oe1 (n : Int) (f : Int → Int) (p : Int) : Int := numE n f (p + 1)
def oe2 (n : Int) (f : Int → Int) (p : Int) : Int := numE n f (oe1 n f p + 1)
def oe3 (n : Int) (f : Int → Int) (p : Int) : Int := numE n f (oe2 n f p + 1)
def oA (n : Int) (f : Int → Int) (p : Int) : Int := numV n f (p + 1)
def oB (n : Int) (f : Int → Int) (p : Int) : Int := numV n f (oe1 n f p + 1)
def oC (n : Int) (f : Int → Int) (p : Int) : Int := numV n f (oe2 n f p + 1)
/-- a number and a number, apart by '-' -/
def spanOk (n : Int) (f : Int → Int) (p : Int) : Prop := numOk n f (p + 1) ∧ itm n f (oe1 n f p) = 45 ∧ numOk n f (oe1 n f p + 1)
/-- whether an order stands at a place, and where it stops -/
def ordOk (n : Int) (f : Int → Int) (p : Int) : Prop :=
  (itm n f p = 43 ∧ numOk n f (p + 1) ∧ itm n f (oe1 n f p) = 61 ∧ oe1 n f p + 1 < ltE n f (oe1 n f p + 1)) ∨
  ((itm n f p = 45 ∨ itm n f p = 110) ∧ spanOk n f p) ∨
  (itm n f p = 109 ∧ spanOk n f p ∧ itm n f (oe2 n f p) = 62 ∧ numOk n f (oe2 n f p + 1)) ∨
  ((itm n f p = 114 ∨ itm n f p = 120 ∨ itm n f p = 99) ∧ numOk n f (p + 1))
def spanE (n : Int) (f : Int → Int) (p : Int) : Int := if ¬ numOk n f (p + 1) then p + 1 else if ¬ itm n f (oe1 n f p) = 45 then oe1 n f p else if ¬ numOk n f (oe1 n f p + 1) then oe1 n f p + 1 else oe2 n f p
def ordE (n : Int) (f : Int → Int) (p : Int) : Int :=
  if itm n f p = 43 then (if ¬ numOk n f (p + 1) then p + 1 else if ¬ itm n f (oe1 n f p) = 61 then oe1 n f p else ltE n f (oe1 n f p + 1))
  else if itm n f p = 45 ∨ itm n f p = 110 then spanE n f p
  else if itm n f p = 109 then (if ¬ (numOk n f (p + 1) ∧ itm n f (oe1 n f p) = 45 ∧ numOk n f (oe1 n f p + 1)) then spanE n f p else if ¬ itm n f (oe2 n f p) = 62 then oe2 n f p else if ¬ numOk n f (oe2 n f p + 1) then oe2 n f p + 1 else oe3 n f p)
  else if itm n f p = 114 ∨ itm n f p = 120 ∨ itm n f p = 99 then (if ¬ numOk n f (p + 1) then p + 1 else oe1 n f p)
  else p
theorem itm_in {n : Int} {f : Int → Int} {p : Int} (h : ¬ itm n f p = -1) : 0 ≤ p ∧ p < n := by
  unfold itm at h
  split at h
  · assumption
  · exact absurd rfl h
theorem num_bd {n : Int} {f : Int → Int} {p : Int} (h : numOk n f p) : p < numE n f p ∧ numE n f p ≤ n ∧ numE n f p ≤ p + 2 ∧ 0 ≤ numV n f p ∧ numV n f p ≤ 99 := by
  have h1 := itm_in (n := n) (f := f) (p := p) (by have := h.1; omega)
  unfold numE numV
  by_cases c : num2 n f p
  · rw [if_pos c, if_pos c]
    have h2 := itm_in (n := n) (f := f) (p := p + 1) (by have := c.2.1; omega)
    have := c.2.1
    have := c.2.2
    have := h.1
    have := h.2
    omega
  · rw [if_neg c, if_neg c]
    have := h.1
    have := h.2
    omega
theorem ltE_bd {n : Int} {f : Int → Int} {p : Int} (h : p ≤ n) : p ≤ ltE n f p ∧ ltE n f p ≤ n := by
  have := lead_le (fun i => decide (isL (itm n f (p + i)))) (n - p).toNat
  unfold ltE
  omega
section
variable {n : Int} {f : Int → Int} {p : Int}
theorem oK_cases (h : ordOk n f p) : itm n f p = 43 ∨ itm n f p = 45 ∨ itm n f p = 110 ∨ itm n f p = 109 ∨ itm n f p = 114 ∨ itm n f p = 120 ∨ itm n f p = 99 := by
  rcases h with h | ⟨h, -⟩ | h | ⟨h, -⟩ <;> omega
theorem o_plus1 (h : itm n f p = 43) (h1 : ¬ numOk n f (p + 1)) : ordE n f p = p + 1 ∧ ¬ ordOk n f p := by
  refine ⟨by unfold ordE; rw [if_pos h, if_pos h1], fun z => ?_⟩
  rcases z with z | ⟨z, -⟩ | z | ⟨z, -⟩
  · exact h1 z.2.1
  · omega
  · omega
  · omega
theorem o_plus2 (h : itm n f p = 43) (h1 : numOk n f (p + 1)) (h2 : ¬ itm n f (oe1 n f p) = 61) : ordE n f p = oe1 n f p ∧ ¬ ordOk n f p := by
  refine ⟨by unfold ordE; rw [if_pos h, if_neg (fun z => z h1), if_pos h2], fun z => ?_⟩
  rcases z with z | ⟨z, -⟩ | z | ⟨z, -⟩
  · exact h2 z.2.2.1
  · omega
  · omega
  · omega
theorem o_plus3 (h : itm n f p = 43) (h1 : numOk n f (p + 1)) (h2 : itm n f (oe1 n f p) = 61) : ordE n f p = ltE n f (oe1 n f p + 1) ∧ (ordOk n f p ↔ oe1 n f p + 1 < ltE n f (oe1 n f p + 1)) := by
  refine ⟨by unfold ordE; rw [if_pos h, if_neg (fun z => z h1), if_neg (fun z => z h2)], fun z => ?_, fun z => Or.inl ⟨h, h1, h2, z⟩⟩
  rcases z with z | ⟨z, -⟩ | z | ⟨z, -⟩
  · exact z.2.2.2
  · omega
  · omega
  · omega
theorem o_span (h : itm n f p = 45 ∨ itm n f p = 110) : ordE n f p = spanE n f p ∧ (ordOk n f p ↔ spanOk n f p) := by
  refine ⟨by unfold ordE; rw [if_neg (by omega), if_pos h], fun z => ?_, fun z => Or.inr (Or.inl ⟨h, z⟩)⟩
  rcases z with z | ⟨-, z⟩ | z | ⟨z, -⟩
  · omega
  · exact z
  · omega
  · omega
theorem s_1 (h : ¬ numOk n f (p + 1)) : spanE n f p = p + 1 ∧ ¬ spanOk n f p := ⟨by unfold spanE; rw [if_pos h], fun z => h z.1⟩
theorem s_2 (h : numOk n f (p + 1)) (h1 : ¬ itm n f (oe1 n f p) = 45) : spanE n f p = oe1 n f p ∧ ¬ spanOk n f p := ⟨by unfold spanE; rw [if_neg (fun z => z h), if_pos h1], fun z => h1 z.2.1⟩
theorem s_3 (h : numOk n f (p + 1)) (h1 : itm n f (oe1 n f p) = 45) (h2 : ¬ numOk n f (oe1 n f p + 1)) : spanE n f p = oe1 n f p + 1 ∧ ¬ spanOk n f p := ⟨by unfold spanE; rw [if_neg (fun z => z h), if_neg (fun z => z h1), if_pos h2], fun z => h2 z.2.2⟩
theorem s_4 (h : numOk n f (p + 1)) (h1 : itm n f (oe1 n f p) = 45) (h2 : numOk n f (oe1 n f p + 1)) : spanE n f p = oe2 n f p ∧ spanOk n f p := ⟨by unfold spanE; rw [if_neg (fun z => z h), if_neg (fun z => z h1), if_neg (fun z => z h2)], h, h1, h2⟩
theorem o_m1 (h : itm n f p = 109) (h1 : ¬ spanOk n f p) : ordE n f p = spanE n f p ∧ ¬ ordOk n f p := by
  refine ⟨by unfold ordE; rw [if_neg (by omega), if_neg (by omega), if_pos h, if_pos (show ¬ (numOk n f (p + 1) ∧ itm n f (oe1 n f p) = 45 ∧ numOk n f (oe1 n f p + 1)) from h1)], fun z => ?_⟩
  rcases z with z | ⟨z, -⟩ | z | ⟨z, -⟩
  · omega
  · omega
  · exact h1 z.2.1
  · omega
theorem o_m2 (h : itm n f p = 109) (h1 : spanOk n f p) (h2 : ¬ itm n f (oe2 n f p) = 62) : ordE n f p = oe2 n f p ∧ ¬ ordOk n f p := by
  refine ⟨by unfold ordE; rw [if_neg (by omega), if_neg (by omega), if_pos h, if_neg (fun z => z h1), if_pos h2], fun z => ?_⟩
  rcases z with z | ⟨z, -⟩ | z | ⟨z, -⟩
  · omega
  · omega
  · exact h2 z.2.2.1
  · omega
theorem o_m3 (h : itm n f p = 109) (h1 : spanOk n f p) (h2 : itm n f (oe2 n f p) = 62) (h3 : ¬ numOk n f (oe2 n f p + 1)) : ordE n f p = oe2 n f p + 1 ∧ ¬ ordOk n f p := by
  refine ⟨by unfold ordE; rw [if_neg (by omega), if_neg (by omega), if_pos h, if_neg (fun z => z h1), if_neg (fun z => z h2), if_pos h3], fun z => ?_⟩
  rcases z with z | ⟨z, -⟩ | z | ⟨z, -⟩
  · omega
  · omega
  · exact h3 z.2.2.2
  · omega
theorem o_m4 (h : itm n f p = 109) (h1 : spanOk n f p) (h2 : itm n f (oe2 n f p) = 62) (h3 : numOk n f (oe2 n f p + 1)) : ordE n f p = oe3 n f p ∧ ordOk n f p :=
  ⟨by unfold ordE; rw [if_neg (by omega), if_neg (by omega), if_pos h, if_neg (fun z => z h1), if_neg (fun z => z h2), if_neg (fun z => z h3)], Or.inr (Or.inr (Or.inl ⟨h, h1, h2, h3⟩))⟩
theorem o_one1 (h : itm n f p = 114 ∨ itm n f p = 120 ∨ itm n f p = 99) (h1 : ¬ numOk n f (p + 1)) : ordE n f p = p + 1 ∧ ¬ ordOk n f p := by
  refine ⟨by unfold ordE; rw [if_neg (by omega), if_neg (by omega), if_neg (by omega), if_pos h, if_pos h1], fun z => ?_⟩
  rcases z with z | ⟨z, -⟩ | z | ⟨-, z⟩
  · omega
  · omega
  · omega
  · exact h1 z
theorem o_one2 (h : itm n f p = 114 ∨ itm n f p = 120 ∨ itm n f p = 99) (h1 : numOk n f (p + 1)) : ordE n f p = oe1 n f p ∧ ordOk n f p :=
  ⟨by unfold ordE; rw [if_neg (by omega), if_neg (by omega), if_neg (by omega), if_pos h, if_neg (fun z => z h1)], Or.inr (Or.inr (Or.inr ⟨h, h1⟩))⟩
theorem o_none (h : ¬ (itm n f p = 43 ∨ itm n f p = 45 ∨ itm n f p = 110 ∨ itm n f p = 109 ∨ itm n f p = 114 ∨ itm n f p = 120 ∨ itm n f p = 99)) : ordE n f p = p ∧ ¬ ordOk n f p :=
  ⟨by unfold ordE; rw [if_neg (by omega), if_neg (by omega), if_neg (by omega), if_neg (by omega)], fun z => h (oK_cases z)⟩
/-- an order takes three characters at the least; where it stops lies in the text -/
theorem ordE_bd (h0 : 0 ≤ p) (h : p ≤ n) : p ≤ ordE n f p ∧ ordE n f p ≤ n ∧ (ordOk n f p → p + 2 ≤ ordE n f p) := by
  by_cases hk : itm n f p = 43 ∨ itm n f p = 45 ∨ itm n f p = 110 ∨ itm n f p = 109 ∨ itm n f p = 114 ∨ itm n f p = 120 ∨ itm n f p = 99
  · have hp := itm_in (n := n) (f := f) (p := p) (by omega)
    by_cases h1 : numOk n f (p + 1)
    · have b1 := num_bd h1
      have e1 : oe1 n f p = numE n f (p + 1) := rfl
      rcases hk with hk | hk
      · by_cases h2 : itm n f (oe1 n f p) = 61
        · have hq := itm_in (n := n) (f := f) (p := oe1 n f p) (by omega)
          have b2 := ltE_bd (n := n) (f := f) (p := oe1 n f p + 1) (by omega)
          obtain ⟨e, -⟩ := o_plus3 hk h1 h2
          rw [e]; exact ⟨by omega, by omega, fun _ => by omega⟩
        · obtain ⟨e, k⟩ := o_plus2 hk h1 h2
          rw [e]; exact ⟨by omega, by omega, fun z => absurd z k⟩
      · by_cases hs : itm n f p = 114 ∨ itm n f p = 120 ∨ itm n f p = 99
        · obtain ⟨e, k⟩ := o_one2 hs h1
          rw [e]; exact ⟨by omega, by omega, fun _ => by omega⟩
        · by_cases h2 : itm n f (oe1 n f p) = 45
          · have hq := itm_in (n := n) (f := f) (p := oe1 n f p) (by omega)
            by_cases h3 : numOk n f (oe1 n f p + 1)
            · have b2 := num_bd h3
              have e2 : oe2 n f p = numE n f (oe1 n f p + 1) := rfl
              obtain ⟨e, k⟩ := s_4 h1 h2 h3
              by_cases hm : itm n f p = 109
              · by_cases h4 : itm n f (oe2 n f p) = 62
                · have hq2 := itm_in (n := n) (f := f) (p := oe2 n f p) (by omega)
                  by_cases h5 : numOk n f (oe2 n f p + 1)
                  · have b3 := num_bd h5
                    have e3 : oe3 n f p = numE n f (oe2 n f p + 1) := rfl
                    rw [(o_m4 hm k h4 h5).1]; exact ⟨by omega, by omega, fun _ => by omega⟩
                  · rw [(o_m3 hm k h4 h5).1]; exact ⟨by omega, by omega, fun _ => by omega⟩
                · rw [(o_m2 hm k h4).1]; exact ⟨by omega, by omega, fun _ => by omega⟩
              · rw [(o_span (by omega)).1, e]; exact ⟨by omega, by omega, fun _ => by omega⟩
            · obtain ⟨e, k⟩ := s_3 h1 h2 h3
              by_cases hm : itm n f p = 109
              · rw [(o_m1 hm k).1, e]; exact ⟨by omega, by omega, fun z => absurd z (o_m1 hm k).2⟩
              · rw [(o_span (by omega)).1, e]; exact ⟨by omega, by omega, fun z => absurd ((o_span (by omega)).2.mp z) k⟩
          · obtain ⟨e, k⟩ := s_2 h1 h2
            by_cases hm : itm n f p = 109
            · rw [(o_m1 hm k).1, e]; exact ⟨by omega, by omega, fun z => absurd z (o_m1 hm k).2⟩
            · rw [(o_span (by omega)).1, e]; exact ⟨by omega, by omega, fun z => absurd ((o_span (by omega)).2.mp z) k⟩
    · have he : ordE n f p = p + 1 ∧ ¬ ordOk n f p := by
        rcases hk with hk | hk
        · exact o_plus1 hk h1
        · by_cases hs : itm n f p = 114 ∨ itm n f p = 120 ∨ itm n f p = 99
          · exact o_one1 hs h1
          · obtain ⟨e, k⟩ := s_1 h1
            by_cases hm : itm n f p = 109
            · exact ⟨(o_m1 hm k).1.trans e, (o_m1 hm k).2⟩
            · exact ⟨(o_span (by omega)).1.trans e, fun z => k ((o_span (by omega)).2.mp z)⟩
      rw [he.1]; exact ⟨by omega, by omega, fun z => absurd z he.2⟩
  · rw [(o_none hk).1]; exact ⟨by omega, by omega, fun z => absurd z (o_none hk).2⟩
end

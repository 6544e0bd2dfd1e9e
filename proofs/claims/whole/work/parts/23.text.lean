/-! texts: what is read from a place on -/
abbrev isD (c : Int) : Prop := 48 ≤ c ∧ c ≤ 57
abbrev isL (c : Int) : Prop := 97 ≤ c ∧ c ≤ 122
abbrev num2 (n : Int) (f : Int → Int) (p : Int) : Prop := ¬ itm n f p - 48 = 0 ∧ isD (itm n f (p + 1))
def numV (n : Int) (f : Int → Int) (p : Int) : Int := if num2 n f p then 10 * (itm n f p - 48) + itm n f (p + 1) - 48 else itm n f p - 48
def numE (n : Int) (f : Int → Int) (p : Int) : Int := if num2 n f p then p + 2 else p + 1
def ltE (n : Int) (f : Int → Int) (p : Int) : Int := p + (lead (fun i => decide (isL (itm n f (p + i)))) (n - p).toNat : Int)
abbrev numOk (n : Int) (f : Int → Int) (p : Int) : Prop := isD (itm n f p)
/-- where the first and second number of an order end -/
def oe1 (n : Int) (f : Int → Int) (p : Int) : Int := numE n f (p + 1)
def oe2 (n : Int) (f : Int → Int) (p : Int) : Int := numE n f (oe1 n f p + 1)
def oe3 (n : Int) (f : Int → Int) (p : Int) : Int := numE n f (oe2 n f p + 1)
def oA (n : Int) (f : Int → Int) (p : Int) : Int := numV n f (p + 1)
def oB (n : Int) (f : Int → Int) (p : Int) : Int := numV n f (oe1 n f p + 1)
def oC (n : Int) (f : Int → Int) (p : Int) : Int := numV n f (oe2 n f p + 1)
/-- a number and a number, apart by '-' -/
def spanOk (n : Int) (f : Int → Int) (p : Int) : Prop := numOk n f (p + 1) ∧ itm n f (oe1 n f p) = 45 ∧ numOk n f (oe1 n f p + 1)
/-- whether an order stands at a place, and where it stops -/
def ordOk (n : Int) (f : Int → Int) (p : Int) : Prop :=
  (itm n f p = 43 ∧ numOk n f (p + 1) ∧ itm n f (oe1 n f p) = 61 ∧ oe1 n f p + 1 < ltE n f (oe1 n f p + 1)) ∨
  ((itm n f p = 45 ∨ itm n f p = 110) ∧ spanOk n f p) ∨
  (itm n f p = 109 ∧ spanOk n f p ∧ itm n f (oe2 n f p) = 62 ∧ numOk n f (oe2 n f p + 1)) ∨
  ((itm n f p = 114 ∨ itm n f p = 120 ∨ itm n f p = 99) ∧ numOk n f (p + 1))
def spanE (n : Int) (f : Int → Int) (p : Int) : Int := if ¬ numOk n f (p + 1) then p + 1 else if ¬ itm n f (oe1 n f p) = 45 then oe1 n f p else if ¬ numOk n f (oe1 n f p + 1) then oe1 n f p + 1 else oe2 n f p
def ordE (n : Int) (f : Int → Int) (p : Int) : Int :=
  if itm n f p = 43 then (if ¬ numOk n f (p + 1) then p + 1 else if ¬ itm n f (oe1 n f p) = 61 then oe1 n f p else ltE n f (oe1 n f p + 1))
  else if itm n f p = 45 ∨ itm n f p = 110 then spanE n f p
  else if itm n f p = 109 then (if ¬ (numOk n f (p + 1) ∧ itm n f (oe1 n f p) = 45 ∧ numOk n f (oe1 n f p + 1)) then spanE n f p else if ¬ itm n f (oe2 n f p) = 62 then oe2 n f p else if ¬ numOk n f (oe2 n f p + 1) then oe2 n f p + 1 else oe3 n f p)
  else if itm n f p = 114 ∨ itm n f p = 120 ∨ itm n f p = 99 then (if ¬ numOk n f (p + 1) then p + 1 else oe1 n f p)
  else p
theorem itm_in {n : Int} {f : Int → Int} {p : Int} (h : ¬ itm n f p = -1) : 0 ≤ p ∧ p < n := by
  unfold itm at h
  split at h
  · assumption
  · exact absurd rfl h
theorem num_bd {n : Int} {f : Int → Int} {p : Int} (h : numOk n f p) : p < numE n f p ∧ numE n f p ≤ n ∧ numE n f p ≤ p + 2 ∧ 0 ≤ numV n f p ∧ numV n f p ≤ 99 := by
  have h1 := itm_in (n := n) (f := f) (p := p) (by have := h.1; omega)
  unfold numE numV
  by_cases c : num2 n f p
  · rw [if_pos c, if_pos c]
    have h2 := itm_in (n := n) (f := f) (p := p + 1) (by have := c.2.1; omega)
    have := c.2.1
    have := c.2.2
    have := h.1
    have := h.2
    omega
  · rw [if_neg c, if_neg c]
    have := h.1
    have := h.2
    omega
theorem ltE_bd {n : Int} {f : Int → Int} {p : Int} (h : p ≤ n) : p ≤ ltE n f p ∧ ltE n f p ≤ n := by
  have := lead_le (fun i => decide (isL (itm n f (p + i)))) (n - p).toNat
  unfold ltE
  omega

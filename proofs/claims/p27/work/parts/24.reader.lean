/-- the reader: where it is, the sort of order, where letters begin, its numbers -/
def RdAt (D : zD) (w : Nat) (nx kd lf cn : Int) (fn : Int → Int) (H : Heap) : Prop := Ob D w 3 [.int (J nx), .int (J kd), .int (J lf), .ref (w + 1)] H ∧ RowAt D (w + 1) 3 cn fn H
theorem RdAt.fr {D : zD} {w a b d : Nat} {nx kd lf cn : Int} {fn : Int → Int} {H H' : Heap} (h : RdAt D w nx kd lf cn fn H) (f : Fr (Iv a b) d H H') (e : w + 3 ≤ a ∨ b ≤ w) : RdAt D w nx kd lf cn fn H' := ⟨h.1.fr f (by omega), h.2.fr f (by omega)⟩


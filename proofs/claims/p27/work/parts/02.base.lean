/-! my layer: one goal G over the heap, one row an instruction; numbers are whole numbers behind J -/
abbrev J (z : Int) : Int32 := Int32.ofInt z
abbrev rg (z : Int) : Prop := -2147483648 ≤ z ∧ z < 2147483648
theorem J_toInt {z : Int} (h : rg z) : (J z).toInt = z := by
  unfold J
  rw [Int32.toInt_ofInt]
  show z.bmod (2 ^ 32) = z
  rw [Int.bmod_eq_of_le (by omega) (by omega)]
theorem J_of (x : Int32) : x = J x.toInt := (Int32.ofInt_toInt x).symm
theorem rg_toInt (x : Int32) : rg x.toInt := by
  have h1 := Int32.le_toInt x
  have h2 := Int32.toInt_lt x
  exact ⟨by omega, by omega⟩
theorem J_add (a b : Int) : J a + J b = J (a + b) := (Int32.ofInt_add a b).symm
theorem J_sub (a b : Int) : J a - J b = J (a - b) := (Int32.ofInt_sub a b).symm
theorem J_mul (a b : Int) : J a * J b = J (a * b) := (Int32.ofInt_mul a b).symm
theorem J_inj {a b : Int} (ha : rg a) (hb : rg b) : J a = J b ↔ a = b := by
  constructor
  · intro h
    have h2 := congrArg Int32.toInt h
    rwa [J_toInt ha, J_toInt hb] at h2
  · intro h; rw [h]
theorem J_lt {a b : Int} (ha : rg a) (hb : rg b) : J a < J b ↔ a < b := by
  rw [Int32.lt_iff_toInt_lt, J_toInt ha, J_toInt hb]
theorem J_le {a b : Int} (ha : rg a) (hb : rg b) : J a ≤ J b ↔ a ≤ b := by
  rw [Int32.le_iff_toInt_le, J_toInt ha, J_toInt hb]
theorem J_0 : (0 : Int32) = J 0 := rfl
theorem J_cl {z : Int} (h : rg z) : (J z).toNatClampNeg = z.toNat := by
  show (J z).toInt.toNat = z.toNat
  rw [J_toInt h]
theorem J_in {z : Int} {n : Nat} (h0 : 0 ≤ z) (h1 : z < n) (hn : n < 2147483648) : vp_in (J z) n := by
  rw [vp_in_iff, J_toInt ⟨by omega, by omega⟩]
  exact ⟨h0, h1⟩
theorem J_nat (n : Nat) : Int32.ofNat n = J (n : Int) := by
  apply Int32.toInt_inj.mp
  first | rfl | simp [J, Int32.toInt_ofInt, Int32.toInt_ofNat']
/-- which classes, slots, array classes -/
abbrev zD : Type := (Nat → ClassId) × (Nat → Nat → Nat) × (Nat → ClassId)
def zTys (D : zD) : List (ClassId × FieldType) := [(D.2.2 0, .int), (D.2.2 1, .int), (D.2.2 2, .object "AnchoredNotes$Note"), (D.2.2 3, .object "AnchoredNotes$Page")]
/-- private members of nest mates that are called -/
def zNest : List Cond := [.methodLinkNest RX4 34 yX5_init RX8, .methodLinkNest RX4 42 yX2_init RX8, .methodLinkNest RX8 18 yX1_init RX8, .methodLinkNest RX8 25 yX7_init RX8, .methodLinkNest RX8 41 yX3_init RX8, .methodLinkNest RX8 48 yX0_init RX8, .methodLinkNest RX5 33 yX8_isIn RX8, .methodLinkNest RX4 118 yX8_isIn RX8]
def zKn (D : zD) (U : State) : Prop := va_K (D.1, D.2.1) vwCl (zTys D) U ∧ va_AO "AnchoredNotes$Note" U ∧ va_AO "AnchoredNotes$Page" U ∧ ∀ w ∈ zNest, va_Nw w U
theorem zKn.warm {D : zD} {u U : State} (hW : u.WarmedH U.vm) (h : zKn D u) : zKn D U := by
  refine ⟨h.1.moved hW.alike, h.2.1.moved hW.alike, h.2.2.1.moved hW.alike, fun w hw => ?_⟩
  have h2 := h.2.2.2 w hw
  simp only [zNest, List.mem_cons, List.not_mem_nil, or_false] at hw
  rcases hw with rfl | rfl | rfl | rfl | rfl | rfl | rfl | rfl <;> exact va_Nw.warmM hW h2
theorem zKn.calling {D : zD} {u : State} {g : JFrame} {mk : MethodId} {a : Array Value} (h : zKn D u) : zKn D (u.calling g mk a) := by
  refine ⟨va_K.moved (u := u) (U := u.calling g mk a) (Vm.Alike.refl u.vm) h.1, va_AO.moved (u := u) (U := u.calling g mk a) (Vm.Alike.refl u.vm) h.2.1, va_AO.moved (u := u) (U := u.calling g mk a) (Vm.Alike.refl u.vm) h.2.2.1, fun w hw => ?_⟩
  have h2 := h.2.2.2 w hw
  simp only [zNest, List.mem_cons, List.not_mem_nil, or_false] at hw
  rcases hw with rfl | rfl | rfl | rfl | rfl | rfl | rfl | rfl <;> exact va_Nw.same rfl rfl h2
/-- an object; a row of ints; a row of flags; a row of references -/
def Ob (D : zD) (q ci : Nat) (fs : List Value) (H : Heap) : Prop := va_at (D.1, D.2.1) vwCl (q, .inr (ci, fs)) H
def Ia (D : zD) (q N : Nat) (f : Int → Int) (H : Heap) : Prop := va_at (D.1, D.2.1) vwCl (q, .inl (D.2.2 0, N, .inl (fun j => J (f j)))) H
def Ba (D : zD) (q N : Nat) (f : Int → Int) (H : Heap) : Prop := va_at (D.1, D.2.1) vwCl (q, .inl (D.2.2 1, N, .inl (fun j => J (f j)))) H
def Ra (D : zD) (q t N : Nat) (f : Int → Option Nat) (H : Heap) : Prop := va_at (D.1, D.2.1) vwCl (q, .inl (D.2.2 t, N, .inr (.inr (.inr (.inr (fun j => f j)))))) H
/-- one cell is written; some cells may be written -/
def Up1 (a : Nat) (H H' : Heap) : Prop := H'.size = H.size ∧ ∀ q : Nat, q ≠ a → H'[q]? = H[q]?
def Iv (a b : Nat) : Nat → Prop := fun q => a ≤ q ∧ q < b
/-- outside F all stays; d cells are new -/
def Fr (F : Nat → Prop) (d : Nat) (H H' : Heap) : Prop := H'.size = H.size + d ∧ ∀ q : Nat, q < H.size → ¬ F q → H'[q]? = H[q]?
theorem va_at_fit {D : va_G} {cl : List vw_C} {q : Nat × va_E} {H : Heap} (h : va_at D cl q H) : q.1 < H.size := h.lt
theorem Ob.lt {D : zD} {q ci : Nat} {fs : List Value} {H : Heap} (h : Ob D q ci fs H) : q < H.size := va_at_fit (q := (q, _)) h
theorem Ia.lt {D : zD} {q N : Nat} {f : Int → Int} {H : Heap} (h : Ia D q N f H) : q < H.size := va_at_fit (q := (q, _)) h
theorem Ba.lt {D : zD} {q N : Nat} {f : Int → Int} {H : Heap} (h : Ba D q N f H) : q < H.size := va_at_fit (q := (q, _)) h
theorem Ra.lt {D : zD} {q t N : Nat} {f : Int → Option Nat} {H : Heap} (h : Ra D q t N f H) : q < H.size := va_at_fit (q := (q, _)) h
theorem Ob.kept {D : zD} {q ci : Nat} {fs : List Value} {H H' : Heap} (h : Ob D q ci fs H) (e : H'[q]? = H[q]?) : Ob D q ci fs H' := va_at.kept (q := (q, _)) h e
theorem Ia.kept {D : zD} {q N : Nat} {f : Int → Int} {H H' : Heap} (h : Ia D q N f H) (e : H'[q]? = H[q]?) : Ia D q N f H' := va_at.kept (q := (q, _)) h e
theorem Ba.kept {D : zD} {q N : Nat} {f : Int → Int} {H H' : Heap} (h : Ba D q N f H) (e : H'[q]? = H[q]?) : Ba D q N f H' := va_at.kept (q := (q, _)) h e
theorem Ra.kept {D : zD} {q t N : Nat} {f : Int → Option Nat} {H H' : Heap} (h : Ra D q t N f H) (e : H'[q]? = H[q]?) : Ra D q t N f H' := va_at.kept (q := (q, _)) h e
theorem Iv.off {a b q : Nat} (h : q < a ∨ b ≤ q) : ¬ Iv a b q := fun e => by have h1 := e.1; have h2 := e.2; omega
theorem Up1.fr {a : Nat} {H H' : Heap} (h : Up1 a H H') : Fr (Iv a (a + 1)) 0 H H' := ⟨h.1, fun q _ hq => h.2 q (fun e => hq ⟨by omega, by omega⟩)⟩
theorem Fr.refl (F : Nat → Prop) (H : Heap) : Fr F 0 H H := ⟨rfl, fun _ _ _ => rfl⟩
theorem Fr.trans {F : Nat → Prop} {d d' : Nat} {H1 H2 H3 : Heap} (h : Fr F d H1 H2) (h' : Fr F d' H2 H3) : Fr F (d + d') H1 H3 := ⟨by rw [h'.1, h.1, Nat.add_assoc], fun q h1 h2 => (h'.2 q (by rw [h.1]; omega) h2).trans (h.2 q h1 h2)⟩
theorem Fr.trans0 {F : Nat → Prop} {H1 H2 H3 : Heap} (h : Fr F 0 H1 H2) (h' : Fr F 0 H2 H3) : Fr F 0 H1 H3 := h.trans h'
theorem Fr.mono {F F' : Nat → Prop} {d : Nat} {H1 H2 : Heap} (h : Fr F d H1 H2) (hF : ∀ q, q < H1.size → F q → F' q) : Fr F' d H1 H2 := ⟨h.1, fun q h1 h2 => h.2 q h1 (fun e => h2 (hF q h1 e))⟩
theorem Fr.wide {a b a' b' d : Nat} {H1 H2 : Heap} (h : Fr (Iv a b) d H1 H2) (h1 : a' ≤ a) (h2 : b ≤ b') : Fr (Iv a' b') d H1 H2 := h.mono (fun q _ e => ⟨Nat.le_trans h1 e.1, Nat.lt_of_lt_of_le e.2 h2⟩)
theorem Fr.new {H H1 : Heap} {a b d : Nat} (h : H1.size = H.size + d) (o : ∀ q : Nat, q < H.size → H1[q]? = H[q]?) : Fr (Iv a b) d H H1 := ⟨h, fun q h1 _ => o q h1⟩
theorem Fr.any {F : Nat → Prop} {d : Nat} {H H1 : Heap} (h : Fr (Iv 0 0) d H H1) : Fr F d H H1 := ⟨h.1, fun q h1 _ => h.2 q h1 (Iv.off (Or.inr (Nat.zero_le q)))⟩
theorem Ob.fr {D : zD} {q ci a b d : Nat} {fs : List Value} {H H' : Heap} (h : Ob D q ci fs H) (f : Fr (Iv a b) d H H') (e : q < a ∨ b ≤ q) : Ob D q ci fs H' := h.kept (f.2 q h.lt (Iv.off e))
theorem Ia.fr {D : zD} {q N a b d : Nat} {g : Int → Int} {H H' : Heap} (h : Ia D q N g H) (f : Fr (Iv a b) d H H') (e : q < a ∨ b ≤ q) : Ia D q N g H' := h.kept (f.2 q h.lt (Iv.off e))
theorem Ba.fr {D : zD} {q N a b d : Nat} {g : Int → Int} {H H' : Heap} (h : Ba D q N g H) (f : Fr (Iv a b) d H H') (e : q < a ∨ b ≤ q) : Ba D q N g H' := h.kept (f.2 q h.lt (Iv.off e))
theorem Ra.fr {D : zD} {q t N a b d : Nat} {g : Int → Option Nat} {H H' : Heap} (h : Ra D q t N g H) (f : Fr (Iv a b) d H H') (e : q < a ∨ b ≤ q) : Ra D q t N g H' := h.kept (f.2 q h.lt (Iv.off e))
/-- all that is fixed in a method's walk -/
abbrev zC : Type := Program × Launch × Env × Room × State × MethodId × Array Value × List Frame × Method × Code × Nat × Nat × (State → Prop)
section
variable (K : zC)
abbrev zp : Program := K.1
abbrev zl : Launch := K.2.1
abbrev ze : Env := K.2.2.1
abbrev zR : Room := K.2.2.2.1
abbrev zs : State := K.2.2.2.2.1
abbrev zm : MethodId := K.2.2.2.2.2.1
abbrev zar : Array Value := K.2.2.2.2.2.2.1
abbrev zbe : List Frame := K.2.2.2.2.2.2.2.1
abbrev zme : Method := K.2.2.2.2.2.2.2.2.1
abbrev zc : Code := K.2.2.2.2.2.2.2.2.2.1
abbrev znL : Nat := K.2.2.2.2.2.2.2.2.2.2.1
abbrev zba : Nat := K.2.2.2.2.2.2.2.2.2.2.2.1
abbrev zQ : State → Prop := K.2.2.2.2.2.2.2.2.2.2.2.2
end
def G (K : zC) (n k : Nat) (H : Heap) (pc : Nat) (lv : List (Nat × Value)) (st : List Value) : Prop :=
  ∀ (locs : List Loc) (ls : Array Slot), va_S (fun q => zba K ≤ q) (zs K).heap H locs → lv_has ls (znL K) lv →
    W (zp K) (zl K) (ze K) (zR K) (zs K) (zm K) (zar K) (zbe K) (zme K) (zc K) H locs n k (zQ K) (F0 (zm K) pc ls st)
def GX (K : zC) (cc : ByteArray) (own : String) (Ts : List Cond) (D : zD) (base : Nat) (rm : Room) (nL : Nat) : Prop :=
  (zp K).tables.exec = Jvm.exec ∧ (zc K).code = cc ∧ (zc K).maxLocals = nL ∧ (zs K).vm.findClass own = some (zm K).cls ∧ (∀ w ∈ Ts, w.before (zar K) (zs K) = true) ∧ zKn D (zs K) ∧ base ≤ (zs K).heap.size ∧ zba K = base ∧ zR K = rm ∧ znL K = nL ∧ (zme K).locks = false
/-- a method's end, over its first heap -/
def CtQ (base : Nat) (Post : Heap → Option Value → Heap → Prop) : Array Value → State → Outcome → State → Prop := fun _ st o t => (∃ v : Option Value, o = .returned v ∧ Post st.heap v t.heap) ∧ va_F (fun q => base ≤ q) st t
def GR (K : zC) (ret : Option FieldType) (base mc ms : Nat) (Post : Heap → Option Value → Heap → Prop) : Prop :=
  (zme K).sig.returnType = ret ∧ zQ K = MQ (zbe K) (CtQ base Post) (zar K) (zs K) mc ms (fun q => base ≤ q)
/-- a method's contract: over every heap of which Pre holds -/
def Ct (l : Launch) (y : MethodName) (ws : List Cond) (rm : Room) (D : zD) (base : Nat) (As : List Value) (Pre : Heap → Prop) (Post : Heap → Option Value → Heap → Prop) : Prop :=
  Met l y ws rm (va_Pc As (fun U => base ≤ U.heap.size ∧ zKn D U ∧ Pre U.heap)) (CtQ base Post) rm.cells rm.slots (fun q => base ≤ q)
theorem Ct.of {l : Launch} {y : MethodName} {ws ws' : List Cond} {rm : Room} {D : zD} {base : Nat} {As : List Value} {Pre : Heap → Prop} {Post : Heap → Option Value → Heap → Prop} {cc : ByteArray} {maxL : Nat} {ret : Option FieldType} {own : String} (hy : plainName y.cls = true) (hw : ws = Cond.code y cc maxL ret :: ws') (hAs : (lg_sl As).length ≤ maxL) (ho : y.cls = own)
    (body : ∀ (K : zC) (H : Heap), GX K cc own ws D base rm maxL → GR K ret base rm.cells rm.slots Post → (zs K).heap = H → (zme K).name = y.name → Pre H → G K 0 0 H 0 (lv_args 0 As) []) : Ct l y ws rm D base As Pre Post := by
  refine Met.ofW (cc := cc) (maxL := maxL) (ret := ret) hy hw ?_
  intro p e s m args below meth c s₁ B hml hv
  obtain ⟨rfl, hbase, hK, hP⟩ := hv
  have hx := B.exec
  have hb := B.bytes
  have hr := B.returns
  have hts := atoms_spec (ws := ws) B.pre
  have hown : s.vm.findClass own = some m.cls := by rw [← ho]; exact findClass_of_methodNamed B.named
  have hlocks := B.notSynchronized
  have hnm : meth.name = y.name := (name_of_methodNamed B.named B.method).1
  have hl := lv_entry As (n := maxL) hAs
  rw [lg_entry_eq]
  have := body (p, l, e, rm, s, m, As.toArray, below, meth, c, maxL, base, MQ below (CtQ base Post) As.toArray s rm.cells rm.slots (fun q => base ≤ q)) s.heap ⟨hx, hb, hml, hown, hts, hK, hbase, rfl, rfl, rfl, hlocks⟩ ⟨hr, rfl⟩ rfl hnm hP
  exact this [] _ va_S.rf hl


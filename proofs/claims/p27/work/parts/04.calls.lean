section
variable {K : zC} {n k : Nat} {H : Heap} {pc : Nat} {lv : List (Nat × Value)} {st : List Value} {cc : ByteArray} {own : String} {Ts : List Cond} {D : zD} {base : Nat} {rm : Room} {nL : Nat}
theorem zblind {As : List Value} {Pre : Heap → Prop} : FrameBlind (va_Pc As (fun U => base ≤ U.heap.size ∧ zKn D U ∧ Pre U.heap)) := fun _ U _ _ q => ⟨q.1, q.2.1, zKn.calling q.2.2.1, q.2.2.2⟩
theorem GX.fix (X : GX K cc own Ts D base rm nL) : CallFix (zp K) (zm K) (zc K) cc (znL K) (zs K) (zar K) Ts own := ⟨X.1, X.2.1, by rw [X.2.2.2.2.2.2.2.2.2.1]; exact X.2.2.1, X.2.2.2.1, X.2.2.2.2.1⟩
theorem GX.pre (X : GX K cc own Ts D base rm nL) {As : List Value} {Pre : Heap → Prop} (hb : base ≤ H.size) (hP : Pre H) : ∀ U : State, U.heap = H → (zs K).WarmedH U.vm → va_Pc As (fun U => base ≤ U.heap.size ∧ zKn D U ∧ Pre U.heap) As.toArray U :=
  fun U hU hW => ⟨rfl, by rw [hU]; exact hb, X.2.2.2.2.2.1.warm hW, by rw [hU]; exact hP⟩
theorem GX.recv (X : GX K cc own Ts D base rm nL) {ci q : Nat} {fs : List Value} {r : vw_C} (hc : vwCl[ci]? = some r) (hO : Ob D q ci fs H) : ∃ cell : Cell, H[q]? = some cell ∧ cell.vm.isStatics = false ∧ (zs K).vm.findClass r.1 = some cell.cls :=
  va_recv X.2.2.2.2.2.1.1 (zsing hO) hc (q0 := 0) rfl
theorem zback {mc ms : Nat} {Post : Heap → Option Value → Heap → Prop} {a : Array Value} {st0 rest : List Value} (X : GX K cc own Ts D base rm nL) {locs : List Loc} {ls : Array Slot} (hS : va_S (fun q => zba K ≤ q) (zs K).heap H locs) (hl : lv_has ls (znL K) lv)
    (hr : va_Run (zp K) (zl K) (ze K) (zR K) (zs K) (zm K) (zar K) (zbe K) (zme K) (zc K) H locs n k mc ms (F0 (zm K) pc ls st0) rest (CtQ base Post a) (fun q => base ≤ q))
    (kk : ∀ (v : Option Value) (H1 : Heap), Post H v H1 → H.size ≤ H1.size → G K (n + mc) (k + ms) H1 (pc + 3) lv (v.toList ++ rest)) :
    W (zp K) (zl K) (ze K) (zR K) (zs K) (zm K) (zar K) (zbe K) (zme K) (zc K) H locs n k (zQ K) (F0 (zm K) pc ls st0) := by
  intro T hT XX
  obtain ⟨v, st₀, t, T', L, h0, X', hL, e1, e2, ⟨⟨r, hv, hp⟩, hz, hk⟩, stp⟩ := hr T hT XX
  cases hv
  rw [h0] at hz hk hp
  have hS2 : va_S (fun q => zba K ≤ q) (zs K).heap T'.heap (locs ++ L) := ⟨Nat.le_trans hS.1 (by rw [e1]; exact hz), fun q h1 h2 => by
      rw [e1, hk q (Nat.lt_of_lt_of_le h1 hS.1) (fun z => h2 (by show zba K ≤ q; rw [X.2.2.2.2.2.2.2.1]; exact z))]; exact hS.2.1 q h1 h2, fun q hq => by
      rcases List.mem_append.mp hq with h | h
      · exact hS.2.2 q h
      · show zba K ≤ q.base; rw [X.2.2.2.2.2.2.2.1]; exact hL q h⟩
  obtain ⟨t2, a1, b1⟩ := kk v T'.heap (by rw [e1]; exact hp) (by rw [e1]; exact hz) (locs ++ L) ls hS2 hl T' rfl X'
  exact ⟨t2, stp t2 a1, b1⟩
theorem g_callV (X : GX K cc own Ts D base rm nL) {y : MethodName} {ws ws' : List Cond} {rmc : Room} {As : List Value} {Pre : Heap → Prop} {Post : Heap → Option Value → Heap → Prop} {bytes : ByteArray} {maxL index : Nat} {ret : Option FieldType} {rest : List Value} {C : String} {ci q : Nat} {fs : List Value} {r : vw_C} (hM : Ct (zl K) y ws rmc D base (.ref q :: As) Pre Post) (hG : GoodIn Ts (wsV own index C y ws)) (hw : ws = Cond.code y bytes maxL ret :: ws') (na : Nat) (hd : y.cls = C ∧ y.cls ≠ "java/lang/invoke/MethodHandle" ∧ y.cls ≠ "java/lang/invoke/VarHandle" ∧ (parseMethodDescriptor y.desc).map (fun d => d.parameters.length) = some na) (hn : As.length = na)
    (hR : rmc.frames + 1 ≤ rm.frames ∧ 8 + (maxL + 11) + rmc.locals ≤ rm.locals) (hf : n + rmc.cells ≤ rm.cells ∧ k + rmc.slots ≤ rm.slots) (hc : vwCl[ci]? = some r) (hC : r.1 = C) (hO : Ob D q ci fs H) (hbs : base ≤ H.size) (hP : Pre H) (hdg : decode cc pc = .ok (.invokevirtual index, 3)) (hst : st = As.reverse ++ .ref q :: rest) (hW : (rest.map fun v => v.category).sum ≤ 8)
    (kk : ∀ (v : Option Value) (H1 : Heap), Post H v H1 → H.size ≤ H1.size → G K (n + rmc.cells) (k + rmc.slots) H1 (pc + 3) lv (v.toList ++ rest)) : G K n k H pc lv st := by
  intro locs ls hS h
  have hRR : zR K = rm := X.2.2.2.2.2.2.2.2.1
  exact zback (a := (Value.ref q :: As).toArray) X hS h (va_runV X.fix hM (cwV na X.2.2.2.2.1 hG hw rfl rfl hd (by rw [hRR]; exact hR)) ⟨zblind, by rw [← hC]; exact X.recv hc hO, X.pre hbs hP⟩ rfl hn h.1 hst (lv_room hW) hdg (by rw [hRR]; exact hf)) kk
theorem g_callS (X : GX K cc own Ts D base rm nL) {y : MethodName} {ws ws' : List Cond} {rmc : Room} {As : List Value} {Pre : Heap → Prop} {Post : Heap → Option Value → Heap → Prop} {bytes : ByteArray} {maxL index : Nat} {ret : Option FieldType} {rest : List Value} (hM : Ct (zl K) y ws rmc D base As Pre Post) (hG : GoodIn Ts (wsS own index y ws)) (hw : ws = Cond.code y bytes maxL ret :: ws') (na : Nat) (hd : y.cls = own ∧ y.cls ≠ "java/lang/invoke/MethodHandle" ∧ y.cls ≠ "java/lang/invoke/VarHandle" ∧ (parseMethodDescriptor y.desc).map (fun d => d.parameters.length) = some na) (hn : As.length = na)
    (hR : rmc.frames + 1 ≤ rm.frames ∧ 8 + (maxL + 11) + rmc.locals ≤ rm.locals) (hf : n + rmc.cells ≤ rm.cells ∧ k + rmc.slots ≤ rm.slots) (hbs : base ≤ H.size) (hP : Pre H) (hdg : decode cc pc = .ok (.invokestatic index, 3)) (hst : st = As.reverse ++ rest) (hW : (rest.map fun v => v.category).sum ≤ 8)
    (kk : ∀ (v : Option Value) (H1 : Heap), Post H v H1 → H.size ≤ H1.size → G K (n + rmc.cells) (k + rmc.slots) H1 (pc + 3) lv (v.toList ++ rest)) : G K n k H pc lv st := by
  intro locs ls hS h
  have hRR : zR K = rm := X.2.2.2.2.2.2.2.2.1
  exact zback (a := As.toArray) X hS h (va_runS X.fix hM (cwS na X.2.2.2.2.1 hG hw rfl rfl hd (by rw [hRR]; exact hR)) ⟨zblind, X.pre hbs hP⟩ rfl hn h.1 hst (lv_room hW) hdg (by rw [hRR]; exact hf)) kk
theorem g_callJ (X : GX K cc own Ts D base rm nL) {y : MethodName} {ws ws' : List Cond} {rmc : Room} {As : List Value} {Pre : Heap → Prop} {Post : Heap → Option Value → Heap → Prop} {bytes : ByteArray} {maxL index : Nat} {ret : Option FieldType} {rest : List Value} (hM : Ct (zl K) y ws rmc D base As Pre Post) (hG : GoodIn Ts (va_wsS own index y ws)) (hw : ws = Cond.code y bytes maxL ret :: ws') (na : Nat) (hd : y.cls ≠ "java/lang/invoke/MethodHandle" ∧ y.cls ≠ "java/lang/invoke/VarHandle" ∧ (parseMethodDescriptor y.desc).map (fun d => d.parameters.length) = some na) (hn : As.length = na)
    (hR : rmc.frames + 1 ≤ rm.frames ∧ 8 + (maxL + 11) + rmc.locals ≤ rm.locals) (hf : n + rmc.cells ≤ rm.cells ∧ k + rmc.slots ≤ rm.slots) (hbs : base ≤ H.size) (hP : Pre H) (hdg : decode cc pc = .ok (.invokestatic index, 3)) (hst : st = As.reverse ++ rest) (hW : (rest.map fun v => v.category).sum ≤ 8)
    (kk : ∀ (v : Option Value) (H1 : Heap), Post H v H1 → H.size ≤ H1.size → G K (n + rmc.cells) (k + rmc.slots) H1 (pc + 3) lv (v.toList ++ rest)) : G K n k H pc lv st := by
  intro locs ls hS h
  have hRR : zR K = rm := X.2.2.2.2.2.2.2.2.1
  have ok : ∀ w ∈ va_wsS own index y ws, w.before (zar K) (zs K) = true := fun w h => X.2.2.2.2.1 w (hG w h).1
  exact zback (a := As.toArray) X hS h (va_runS X.fix hM ⟨callB_of na X.2.2.2.2.1 (fun w h => hG w (by unfold va_wsS; exact List.mem_append_right _ h)) hw rfl rfl (ok _ (by simp [va_wsS])) (ok _ (by simp [va_wsS])) hd (by rw [hRR]; exact hR), ok _ (by simp [va_wsS])⟩ ⟨zblind, X.pre hbs hP⟩ rfl hn h.1 hst (lv_room hW) hdg (by rw [hRR]; exact hf)) kk
/-- a nest mate's private static -/
theorem g_callSN (X : GX K cc own Ts D base rm nL) {y : MethodName} {ws ws' : List Cond} {rmc : Room} {As : List Value} {Pre : Heap → Prop} {Post : Heap → Option Value → Heap → Prop} {bytes : ByteArray} {maxL index : Nat} {ret : Option FieldType} {rest : List Value} {host : String} (hM : Ct (zl K) y ws rmc D base As Pre Post) (hG : GoodIn Ts ws) (hlk : Cond.methodLinkNest own index y host ∈ zNest) (hini : Cond.initialized y.cls ∈ Ts) (hstat : Cond.static y ∈ Ts) (hw : ws = Cond.code y bytes maxL ret :: ws') (na : Nat) (hd : y.cls ≠ "java/lang/invoke/MethodHandle" ∧ y.cls ≠ "java/lang/invoke/VarHandle" ∧ (parseMethodDescriptor y.desc).map (fun d => d.parameters.length) = some na) (hn : As.length = na)
    (hR : rmc.frames + 1 ≤ rm.frames ∧ 8 + (maxL + 11) + rmc.locals ≤ rm.locals) (hf : n + rmc.cells ≤ rm.cells ∧ k + rmc.slots ≤ rm.slots) (hbs : base ≤ H.size) (hP : Pre H) (hdg : decode cc pc = .ok (.invokestatic index, 3)) (hst : st = As.reverse ++ rest) (hW : (rest.map fun v => v.category).sum ≤ 8)
    (kk : ∀ (v : Option Value) (H1 : Heap), Post H v H1 → H.size ≤ H1.size → G K (n + rmc.cells) (k + rmc.slots) H1 (pc + 3) lv (v.toList ++ rest)) : G K n k H pc lv st := by
  intro locs ls hS h
  have hRR : zR K = rm := X.2.2.2.2.2.2.2.2.1
  exact zback (a := As.toArray) X hS h (va_runSN X.fix hM ⟨va_cnB na X.2.2.2.2.1 hG hw rfl rfl (X.2.2.2.2.2.1.2.2.2 _ hlk) (X.2.2.2.2.1 _ hini) hd (by rw [hRR]; exact hR), X.2.2.2.2.1 _ hstat, trivial⟩ ⟨zblind, X.pre hbs hP⟩ rfl hn h.1 hst (lv_room hW) hdg (by rw [hRR]; exact hf)) kk
theorem g_callI (X : GX K cc own Ts D base rm nL) {y : MethodName} {ws ws' : List Cond} {rmc : Room} {As : List Value} {Pre : Heap → Prop} {Post : Heap → Option Value → Heap → Prop} {bytes : ByteArray} {maxL index : Nat} {ret : Option FieldType} {rest : List Value} {q : Nat} (hM : Ct (zl K) y ws rmc D base (.ref q :: As) Pre Post) (hG : GoodIn Ts ws) (hlk : Cond.methodLink own index y ∈ Ts) (hini : Cond.initialized y.cls ∈ Ts) (hinst : Cond.instanceMethod y ∈ Ts) (hy : y.name = "<init>") (hw : ws = Cond.code y bytes maxL none :: ws') (na : Nat) (hd : y.cls ≠ "java/lang/invoke/MethodHandle" ∧ y.cls ≠ "java/lang/invoke/VarHandle" ∧ (parseMethodDescriptor y.desc).map (fun d => d.parameters.length) = some na) (hn : As.length = na)
    (hR : rmc.frames + 1 ≤ rm.frames ∧ 8 + (maxL + 11) + rmc.locals ≤ rm.locals) (hf : n + rmc.cells ≤ rm.cells ∧ k + rmc.slots ≤ rm.slots) (hbs : base ≤ H.size) (hP : Pre H) (hdg : decode cc pc = .ok (.invokespecial index, 3)) (hst : st = As.reverse ++ .ref q :: rest) (hW : (rest.map fun v => v.category).sum ≤ 8)
    (kk : ∀ (v : Option Value) (H1 : Heap), Post H v H1 → H.size ≤ H1.size → G K (n + rmc.cells) (k + rmc.slots) H1 (pc + 3) lv (v.toList ++ rest)) : G K n k H pc lv st := by
  intro locs ls hS h
  have hRR : zR K = rm := X.2.2.2.2.2.2.2.2.1
  exact zback (a := (Value.ref q :: As).toArray) X hS h (va_runI X.fix hM ⟨callB_of na X.2.2.2.2.1 hG hw rfl rfl (X.2.2.2.2.1 _ hini) (X.2.2.2.2.1 _ hlk) hd (by rw [hRR]; exact hR), hy, X.2.2.2.2.1 _ hinst⟩ ⟨zblind, X.pre hbs hP⟩ rfl hn h.1 hst (lv_room hW) hdg (by rw [hRR]; exact hf)) kk
theorem g_callIN (X : GX K cc own Ts D base rm nL) {y : MethodName} {ws ws' : List Cond} {rmc : Room} {As : List Value} {Pre : Heap → Prop} {Post : Heap → Option Value → Heap → Prop} {bytes : ByteArray} {maxL index : Nat} {ret : Option FieldType} {rest : List Value} {q : Nat} {host : String} (hM : Ct (zl K) y ws rmc D base (.ref q :: As) Pre Post) (hG : GoodIn Ts ws) (hlk : Cond.methodLinkNest own index y host ∈ zNest) (hini : Cond.initialized y.cls ∈ Ts) (hinst : Cond.instanceMethod y ∈ Ts) (hy : y.name = "<init>") (hw : ws = Cond.code y bytes maxL none :: ws') (na : Nat) (hd : y.cls ≠ "java/lang/invoke/MethodHandle" ∧ y.cls ≠ "java/lang/invoke/VarHandle" ∧ (parseMethodDescriptor y.desc).map (fun d => d.parameters.length) = some na) (hn : As.length = na)
    (hR : rmc.frames + 1 ≤ rm.frames ∧ 8 + (maxL + 11) + rmc.locals ≤ rm.locals) (hf : n + rmc.cells ≤ rm.cells ∧ k + rmc.slots ≤ rm.slots) (hbs : base ≤ H.size) (hP : Pre H) (hdg : decode cc pc = .ok (.invokespecial index, 3)) (hst : st = As.reverse ++ .ref q :: rest) (hW : (rest.map fun v => v.category).sum ≤ 8)
    (kk : ∀ (v : Option Value) (H1 : Heap), Post H v H1 → H.size ≤ H1.size → G K (n + rmc.cells) (k + rmc.slots) H1 (pc + 3) lv (v.toList ++ rest)) : G K n k H pc lv st := by
  intro locs ls hS h
  have hRR : zR K = rm := X.2.2.2.2.2.2.2.2.1
  exact zback (a := (Value.ref q :: As).toArray) X hS h (va_runIN X.fix hM ⟨va_cnB na X.2.2.2.2.1 hG hw rfl rfl (X.2.2.2.2.2.1.2.2.2 _ hlk) (X.2.2.2.2.1 _ hini) hd (by rw [hRR]; exact hR), hy, X.2.2.2.2.1 _ hinst⟩ ⟨zblind, X.pre hbs hP⟩ rfl hn h.1 hst (lv_room hW) hdg (by rw [hRR]; exact hf)) kk
theorem g_objInit (X : GX K cc own Ts D base rm nL) {index q : Nat} {rest : List Value} (hlk : Cond.methodLink own index objectInit ∈ Ts) (hinst : Cond.instanceMethod objectInit ∈ Ts) (hcode : Cond.code objectInit ⟨#[0xb1]⟩ 1 none ∈ Ts) (hfr : 1 ≤ rm.frames) (hlo : (rest.map fun v => v.category).sum + 12 ≤ rm.locals) (hd : decode cc pc = .ok (.invokespecial index, 3)) (kk : G K n k H (pc + 3) lv rest) : G K n k H pc lv (.ref q :: rest) := by
  intro locs ls hS h
  have hRR : zR K = rm := X.2.2.2.2.2.2.2.2.1
  exact W.objInit X.1 X.2.1 X.2.2.2.1 (X.2.2.2.2.1 _ hlk) (X.2.2.2.2.1 _ hinst) (X.2.2.2.2.1 _ hcode) rfl (h.1.trans (by rw [X.2.2.1]; exact X.2.2.2.2.2.2.2.2.2.1)) rfl hd (by rw [hRR]; exact hfr) (by rw [hRR]; show 2 * 0 + _ + 12 ≤ _; omega) (kk locs ls hS h)
theorem g_new (X : GX K cc own Ts D base rm nL) {ci index N : Nat} {C : String} {T : u_T} {tys : Nat → FieldType} {fs : List Value} (hc : vwCl[ci]? = some (C, T, N)) (hin : ∀ w ∈ u_ws C T N, w ∈ Ts) (hty : ∀ j, j < N → parseFieldDescriptor (T j).2.2.1 = some (tys j)) (hfs : ∀ j, j < N → defaultValue (tys j) = vp_V fs j) (hcl : Cond.classLink own index C ∈ Ts) (hinst : Cond.instantiable C N ∈ Ts) (hini : Cond.initialized C ∈ Ts) (hcells : n + 1 ≤ rm.cells) (hslots : k + N ≤ rm.slots) (hd : decode cc pc = .ok (.new index, 3))
    {n2 k2 : Nat} (hn2 : n + 1 = n2) (hk2 : k + N = k2) (kk : ∀ H1 : Heap, H1.size = H.size + 1 → Ob D H.size ci fs H1 → (∀ q : Nat, q < H.size → H1[q]? = H[q]?) → G K n2 k2 H1 (pc + 3) lv (.ref H.size :: st)) : G K n k H pc lv st := by
  subst hn2
  subst hk2
  intro locs ls hS h
  have hRR : zR K = rm := X.2.2.2.2.2.2.2.2.1
  have hKn := X.2.2.2.2.2.1.1.1 ci _ hc
  refine W.newcK X.1 X.2.1 X.2.2.2.1 (X.2.2.2.2.1 _ hcl) (X.2.2.2.2.1 _ hinst) (X.2.2.2.2.1 _ hini) rfl hd (by rw [hRR]; exact hcells) (by rw [hRR]; exact hslots) hKn.2.1 rfl fun H1 kC hkC e1 z1 o1 => ?_
  exact kk H1 z1 ⟨_, hc, (u_born tys X.2.2.2.2.1 hin hKn hkC e1 hty).to hfs⟩ o1 locs ls ⟨Nat.le_trans hS.1 (by omega), fun x h1 h2 => (o1 x (Nat.lt_of_lt_of_le h1 hS.1)).trans (hS.2.1 x h1 h2), hS.2.2⟩ h
theorem g_newarr (X : GX K cc own Ts D base rm nL) {z : Int} {N : Nat} (harr : Cond.arrayClass .int ∈ Ts) (hz : z = (N : Int)) (hN : N < 100000) (hcells : n + 1 ≤ rm.cells) (hslots : k + N ≤ rm.slots) (hd : decode cc pc = .ok (.newarray .int, 2))
    {n2 k2 : Nat} (hn2 : n + 1 = n2) (hk2 : k + N = k2) (kk : ∀ H1 : Heap, H1.size = H.size + 1 → Ia D H.size N (fun _ => 0) H1 → (∀ q : Nat, q < H.size → H1[q]? = H[q]?) → G K n2 k2 H1 (pc + 2) lv (.ref H.size :: st)) : G K n k H pc lv (.int (J z) :: st) := by
  subst hn2
  subst hk2
  intro locs ls hS h
  have hRR : zR K = rm := X.2.2.2.2.2.2.2.2.1
  have hr : rg z := ⟨by omega, by omega⟩
  refine va_newaK (atype := .int) X.1 X.2.1 (X.2.2.2.2.1 _ harr) rfl hd rfl (by rw [J_0, J_lt hr ⟨by decide, by decide⟩]; omega) (N := N) (by rw [J_cl hr]; omega) (by show N * 4 ≤ _; omega) (by rw [hRR]; exact hcells) (by rw [hRR]; exact hslots) rfl fun H1 cA e1 z1 o1 hA hcA => ?_
  have hK2 := (X.2.2.2.2.2.1.1.2 0 _ rfl).2
  have hid : cA = D.2.2 0 := Option.some.inj (hcA.symm.trans hK2)
  subst hid
  exact kk H1 z1 e1 o1 locs ls ⟨Nat.le_trans hS.1 (by omega), fun x h1 h2 => (o1 x (Nat.lt_of_lt_of_le h1 hS.1)).trans (hS.2.1 x h1 h2), hS.2.2⟩ h
theorem g_anewarr (X : GX K cc own Ts D base rm nL) {z : Int} {N index t : Nat} {C : String} (ht : (t = 2 ∧ C = "AnchoredNotes$Note") ∨ (t = 3 ∧ C = "AnchoredNotes$Page")) (hcl : Cond.classLink own index C ∈ Ts) (hz : z = (N : Int)) (hN : N < 100000) (hcells : n + 1 ≤ rm.cells) (hslots : k + N ≤ rm.slots) (hd : decode cc pc = .ok (.anewarray index, 3))
    {n2 k2 : Nat} (hn2 : n + 1 = n2) (hk2 : k + N = k2) (kk : ∀ H1 : Heap, H1.size = H.size + 1 → Ra D H.size t N (fun _ => none) H1 → (∀ q : Nat, q < H.size → H1[q]? = H[q]?) → G K n2 k2 H1 (pc + 3) lv (.ref H.size :: st)) : G K n k H pc lv (.int (J z) :: st) := by
  subst hn2
  subst hk2
  intro locs ls hS h
  have hRR : zR K = rm := X.2.2.2.2.2.2.2.2.1
  have hr : rg z := ⟨by omega, by omega⟩
  have hKs := X.2.2.2.2.2.1
  obtain ⟨hover, t0, ht0⟩ : va_AO C (zs K) ∧ ∃ t0 : Nat, (zTys D)[t0]? = some (D.2.2 t, .object C) := by
    rcases ht with ⟨rfl, rfl⟩ | ⟨rfl, rfl⟩
    · exact ⟨hKs.2.1, 2, rfl⟩
    · exact ⟨hKs.2.2.1, 3, rfl⟩
  have hcl0 : (J z).toNatClampNeg = N := by rw [J_cl hr]; omega
  refine W.anew X.1 X.2.1 X.2.2.2.1 (X.2.2.2.2.1 _ hcl) (va_AO.use hover) rfl hd rfl (by rw [J_0, J_lt hr ⟨by decide, by decide⟩]; omega) (by rw [hcl0]; omega) (by rw [hRR]; exact hcells) (by rw [hRR, hcl0]; exact hslots) fun cA kA comp f1 f2 f3 f4 => ?_
  obtain ⟨kA2, comp2, k1, k2, k3, k4⟩ := (hKs.1.2 t0 _ ht0).2
  have hid : cA = D.2.2 t := Option.some.inj (f1.symm.trans k4)
  rw [hcl0]
  generalize hH1 : H.push ({ cls := cA, slots := Array.replicate N .null, vm := .none } : Cell) = H1
  have z1 : H1.size = H.size + 1 := by rw [← hH1, Array.size_push]
  have e1 : H1[H.size]? = some (arrV cA N (fun _ => .null)) := by rw [← hH1, Array.getElem?_push_size, ← arrV_new]
  have o1 : ∀ q : Nat, q < H.size → H1[q]? = H[q]? := fun q hq => by rw [← hH1, Array.getElem?_push, if_neg (Nat.ne_of_lt hq)]
  subst hid
  exact kk H1 z1 e1 o1 locs ls ⟨Nat.le_trans hS.1 (by omega), fun x h1 h2 => (o1 x (Nat.lt_of_lt_of_le h1 hS.1)).trans (hS.2.1 x h1 h2), hS.2.2⟩ h
theorem g_mmin (X : GX K cc own Ts D base rm nL) {a b : Int} {index : Nat} (ha : rg a) (hb : rg b) (hlk : Cond.methodLink own index Lib.Math.min.name ∈ Ts) (hstat : Cond.static Lib.Math.min.name ∈ Ts) (hini : Cond.initialized "java/lang/Math" ∈ Ts) (hcode : Cond.code Lib.Math.min.name Lib.Math.min.code 2 (some .int) ∈ Ts) (hfr : 1 ≤ rm.frames) (hlo : (st.map fun v => v.category).sum + 13 ≤ rm.locals) (hf : n ≤ rm.cells ∧ k ≤ rm.slots) (hd : decode cc pc = .ok (.invokestatic index, 3)) (kk : G K n k H (pc + 3) lv (.int (J (if b < a then b else a)) :: st)) : G K n k H pc lv (.int (J b) :: .int (J a) :: st) := by
  intro locs ls hS h
  have hRR : zR K = rm := X.2.2.2.2.2.2.2.2.1
  refine va_mmin X.1 X.2.1 (by rw [X.2.2.1, ← X.2.2.2.2.2.2.2.2.2.1]; exact h.1.symm) X.2.2.2.1 (X.2.2.2.2.1 _ hlk) (X.2.2.2.2.1 _ hstat) (X.2.2.2.2.1 _ hini) (X.2.2.2.2.1 _ hcode) (by rw [hRR]; exact hfr) (by rw [hRR]; exact hlo) (by rw [hRR]; exact hf.1) (by rw [hRR]; exact hf.2) hd ?_
  have e : (if J b < J a then J b else J a) = J (if b < a then b else a) := by
    by_cases c : b < a
    · rw [if_pos c, if_pos ((J_lt hb ha).mpr c)]
    · rw [if_neg c, if_neg (fun q => c ((J_lt hb ha).mp q))]
  rw [e]
  exact kk locs ls hS h
theorem g_mmax (X : GX K cc own Ts D base rm nL) {a b : Int} {index : Nat} (ha : rg a) (hb : rg b) (hlk : Cond.methodLink own index Lib.Math.max.name ∈ Ts) (hstat : Cond.static Lib.Math.max.name ∈ Ts) (hini : Cond.initialized "java/lang/Math" ∈ Ts) (hcode : Cond.code Lib.Math.max.name Lib.Math.max.code 2 (some .int) ∈ Ts) (hfr : 1 ≤ rm.frames) (hlo : (st.map fun v => v.category).sum + 13 ≤ rm.locals) (hf : n ≤ rm.cells ∧ k ≤ rm.slots) (hd : decode cc pc = .ok (.invokestatic index, 3)) (kk : G K n k H (pc + 3) lv (.int (J (if a < b then b else a)) :: st)) : G K n k H pc lv (.int (J b) :: .int (J a) :: st) := by
  intro locs ls hS h
  have hRR : zR K = rm := X.2.2.2.2.2.2.2.2.1
  refine va_mmax X.1 X.2.1 (by rw [X.2.2.1, ← X.2.2.2.2.2.2.2.2.2.1]; exact h.1.symm) X.2.2.2.1 (X.2.2.2.2.1 _ hlk) (X.2.2.2.2.1 _ hstat) (X.2.2.2.2.1 _ hini) (X.2.2.2.2.1 _ hcode) (by rw [hRR]; exact hfr) (by rw [hRR]; exact hlo) (by rw [hRR]; exact hf.1) (by rw [hRR]; exact hf.2) hd ?_
  have e : (if J a < J b then J b else J a) = J (if a < b then b else a) := by
    by_cases c : a < b
    · rw [if_pos c, if_pos ((J_lt ha hb).mpr c)]
    · rw [if_neg c, if_neg (fun q => c ((J_lt ha hb).mp q))]
  rw [e]
  exact kk locs ls hS h
/-- cells that are copied from a row to a row, or within one -/
def cpy (f g : Int → Int) (sp dp m : Int) : Int → Int := fun j => if dp ≤ j ∧ j < dp + m then f (sp + (j - dp)) else g j
theorem g_copy (X : GX K cc own Ts D base rm nL) {q0 q1 N0 N1 : Nat} {f g : Int → Int} {sp dp m : Int} {index : Nat} {rest : List Value} (hA0 : Ia D q0 N0 f H) (hA1 : Ia D q1 N1 g H) (hq : base ≤ q1) (h1 : 0 ≤ sp) (h2 : 0 ≤ dp) (h3 : 0 ≤ m) (h4 : sp + m ≤ N0) (h5 : dp + m ≤ N1) (hN : N0 < 100000 ∧ N1 < 100000) (hlk : Cond.methodLink own index arraycopyName ∈ Ts) (hnat : Cond.native arraycopyName ∈ Ts) (hstat : Cond.static arraycopyName ∈ Ts) (hini : Cond.initialized "java/lang/System" ∈ Ts) (hfr : 1 ≤ rm.frames) (hlo : (rest.map fun v => v.category).sum + (nativeFrameWords "java/lang/System" "arraycopy" 5 + 11) ≤ rm.locals) (hd : decode cc pc = .ok (.invokestatic index, 3))
    (kk : ∀ H1 : Heap, Ia D q1 N1 (cpy f g sp dp m) H1 → Fr (Iv q1 (q1 + 1)) 0 H H1 → G K n k H1 (pc + 3) lv rest) : G K n k H pc lv (.int (J m) :: .int (J dp) :: .ref q1 :: .int (J sp) :: .ref q0 :: rest) := by
  intro locs ls hS h
  have hRR : zR K = rm := X.2.2.2.2.2.2.2.2.1
  have rs : rg sp := ⟨by omega, by omega⟩
  have rd : rg dp := ⟨by omega, by omega⟩
  have rm' : rg m := ⟨by omega, by omega⟩
  have z0 : rg 0 := ⟨by decide, by decide⟩
  have hc0 : H[q0]? = some (vp_cell (D.2.2 0) (N0, .inl (fun j => J (f j)))) := hA0
  have hc1 : H[q1]? = some (vp_cell (D.2.2 0) (N1, .inl (fun j => J (g j)))) := hA1
  have hK2 := (X.2.2.2.2.2.1.1.2 0 _ rfl).1
  obtain ⟨-, k0, hk0, cm0, hkk0⟩ := hK2 N0 (fun j => .int (J (f j)))
  obtain ⟨-, k1, hk1, cm1, hkk1⟩ := hK2 N1 (fun j => .int (J (g j)))
  have cs := J_cl rs
  have cd := J_cl rd
  have cm := J_cl rm'
  intro T hT XX
  obtain ⟨vm', X', step⟩ := XX.arraycopy X.1 X.2.2.2.1 (X.2.2.2.2.1 _ hlk) (X.2.2.2.2.1 _ hnat) (X.2.2.2.2.1 _ hstat) (X.2.2.2.2.1 _ hini) (src := q0) (dst := q1) (cs := vp_cell (D.2.2 0) (N0, .inl (fun j => J (f j)))) (cd := vp_cell (D.2.2 0) (N1, .inl (fun j => J (g j)))) (srcPos := J sp) (destPos := J dp) (n := J m) (by rw [hT]; exact hc0) (by rw [hT]; exact hc1)
    (fun _ h => by cases h) (fun _ h => by cases h) (fun h => by cases h) (fun h => by cases h) hk0 hk1 hkk0 hkk1 (by simp [refKind]) (by rw [J_0, J_lt rs z0]; omega) (by rw [J_0, J_lt rd z0]; omega) (by rw [J_0, J_lt rm' z0]; omega)
    (by rw [J_toInt rs, J_toInt rm']; show ¬ _ > ((arrV (D.2.2 0) N0 (fun j => .int (J (f j)))).slots.size : Int); rw [arrV_size]; omega)
    (by rw [J_toInt rd, J_toInt rm']; show ¬ _ > ((arrV (D.2.2 0) N1 (fun j => .int (J (g j)))).slots.size : Int); rw [arrV_size]; omega)
    (fun vm₁ _ i hi => by
      have e : (vp_cell (D.2.2 0) (N0, .inl (fun j => J (f j)))).slots.getD ((J sp).toNatClampNeg + i) .null = .int (J (f (((J sp).toNatClampNeg + i : Nat) : Int))) := by
        show (arrV (D.2.2 0) N0 (fun j => .int (J (f j)))).slots.getD _ _ = _
        rw [Array.getD_eq_getD_getElem?, arrV_read _ _ (by omega)]
        rfl
      refine ⟨?_, ?_⟩
      · rw [e]
        rfl
      · rw [e]
        exact trivial)
    (g := F0 (zm K) pc ls (.int (J m) :: .int (J dp) :: .ref q1 :: .int (J sp) :: .ref q0 :: rest)) rfl (by show ls.size = _; rw [h.1, X.2.2.1]; exact X.2.2.2.2.2.2.2.2.2.1) (rest := rest) rfl (by rw [X.2.1]; exact hd) (by rw [hRR]; exact hfr) (by rw [hRR]; show 2 * 0 + _ + _ ≤ _; omega)
  have e1 : copied (vp_cell (D.2.2 0) (N0, .inl (fun j => J (f j)))) (vp_cell (D.2.2 0) (N1, .inl (fun j => J (g j)))) (J sp) (J dp) (J m) = vp_cell (D.2.2 0) (N1, .inl (va_cpy (fun j => J (f j)) (fun j => J (g j)) (J sp).toNatClampNeg (J dp).toNatClampNeg (J m).toNatClampNeg)) := va_copied (fun z => .int z) (D.2.2 0) (D.2.2 0) (fun j => J (f j)) (fun j => J (g j)) (by omega)
  have e2 : va_cpy (fun j : Nat => J (f j)) (fun j => J (g j)) (J sp).toNatClampNeg (J dp).toNatClampNeg (J m).toNatClampNeg = fun j : Nat => J (cpy f g sp dp m j) := by
    funext j
    unfold va_cpy cpy
    rw [cs, cd, cm]
    dsimp only
    by_cases c : dp ≤ (j : Int) ∧ (j : Int) < dp + m
    · rw [if_pos c, if_pos (by omega), show (((sp.toNat + (j - dp.toNat) : Nat) : Int)) = sp + (j - dp) by omega]
    · rw [if_neg c, if_neg (by omega)]
  rw [e1, e2] at X' step
  have hl : q1 < H.size := (Array.getElem?_eq_some_iff.mp hc1).1
  generalize hcell : vp_cell (D.2.2 0) (N1, .inl (fun j : Nat => J (cpy f g sp dp m j))) = cell at X' step
  have hheap : ((T.setVm vm').setCell q1 cell).heap = H.setIfInBounds q1 cell := by rw [← hT]; rfl
  have oq : ∀ q : Nat, q ≠ q1 → (H.setIfInBounds q1 cell)[q]? = H[q]? := fun q hq => by simp [Array.getElem?_setIfInBounds, Ne.symm hq]
  have hb' : ∀ q, q = q1 → zba K ≤ q := fun q e => by rw [e, X.2.2.2.2.2.2.2.1]; exact hq
  obtain ⟨t, a1, b1⟩ := kk (H.setIfInBounds q1 cell) (by show (H.setIfInBounds q1 cell)[q1]? = some _; rw [hcell]; simp [Array.getElem?_setIfInBounds, hl]) (Up1.fr ⟨by simp, oq⟩) _ ls ⟨by simp; exact hS.1, fun q g1 g2 => by
      rw [oq q (fun e => g2 (hb' q e))]
      exact hS.2.1 q g1 g2, fun q hq => by
      rcases List.mem_append.mp hq with h | h
      · exact hS.2.2 q h
      · obtain ⟨z, -, hz⟩ := List.mem_map.mp h
        rw [← hz]
        exact hb' q1 rfl⟩ h _ hheap X'
  exact ⟨t, step t a1, b1⟩
end
def PI (P : Heap → Int → Heap → Prop) : Heap → Option Value → Heap → Prop := fun H v H1 => ∃ r : Int, v = some (.int (J r)) ∧ P H r H1
def PV (P : Heap → Heap → Prop) : Heap → Option Value → Heap → Prop := fun H v H1 => v = none ∧ P H H1
def PR (P : Heap → Value → Heap → Prop) : Heap → Option Value → Heap → Prop := fun H v H1 => ∃ r : Value, v = some r ∧ P H r H1
/-- a place of call, all that the tables say of it -/
def zCV (own : String) (Ts : List Cond) (index : Nat) (ci : Nat) (y : MethodName) (ws : List Cond) (bytes : ByteArray) (maxL : Nat) (ret : Option FieldType) (rm rmc : Room) (na : Nat) : Prop := ∃ r ws', GoodIn Ts (wsV own index y.cls y ws) ∧ ws = Cond.code y bytes maxL ret :: ws' ∧ (y.cls ≠ "java/lang/invoke/MethodHandle" ∧ y.cls ≠ "java/lang/invoke/VarHandle" ∧ (parseMethodDescriptor y.desc).map (fun d => d.parameters.length) = some na) ∧ (rmc.frames + 1 ≤ rm.frames ∧ 8 + (maxL + 11) + rmc.locals ≤ rm.locals) ∧ vwCl[ci]? = some r ∧ r.1 = y.cls
def zCS (own : String) (Ts : List Cond) (index : Nat) (y : MethodName) (ws : List Cond) (bytes : ByteArray) (maxL : Nat) (ret : Option FieldType) (rm rmc : Room) (na : Nat) : Prop := ∃ ws', GoodIn Ts (wsS own index y ws) ∧ ws = Cond.code y bytes maxL ret :: ws' ∧ (y.cls = own ∧ y.cls ≠ "java/lang/invoke/MethodHandle" ∧ y.cls ≠ "java/lang/invoke/VarHandle" ∧ (parseMethodDescriptor y.desc).map (fun d => d.parameters.length) = some na) ∧ (rmc.frames + 1 ≤ rm.frames ∧ 8 + (maxL + 11) + rmc.locals ≤ rm.locals)
def zCJ (own : String) (Ts : List Cond) (index : Nat) (y : MethodName) (ws : List Cond) (bytes : ByteArray) (maxL : Nat) (ret : Option FieldType) (rm rmc : Room) (na : Nat) : Prop := ∃ ws', GoodIn Ts (va_wsS own index y ws) ∧ ws = Cond.code y bytes maxL ret :: ws' ∧ (y.cls ≠ "java/lang/invoke/MethodHandle" ∧ y.cls ≠ "java/lang/invoke/VarHandle" ∧ (parseMethodDescriptor y.desc).map (fun d => d.parameters.length) = some na) ∧ (rmc.frames + 1 ≤ rm.frames ∧ 8 + (maxL + 11) + rmc.locals ≤ rm.locals)
def zCN (own : String) (Ts : List Cond) (index : Nat) (y : MethodName) (ws : List Cond) (bytes : ByteArray) (maxL : Nat) (ret : Option FieldType) (rm rmc : Room) (na : Nat) : Prop := ∃ host ws', GoodIn Ts ws ∧ Cond.methodLinkNest own index y host ∈ zNest ∧ Cond.initialized y.cls ∈ Ts ∧ Cond.static y ∈ Ts ∧ ws = Cond.code y bytes maxL ret :: ws' ∧ (y.cls ≠ "java/lang/invoke/MethodHandle" ∧ y.cls ≠ "java/lang/invoke/VarHandle" ∧ (parseMethodDescriptor y.desc).map (fun d => d.parameters.length) = some na) ∧ (rmc.frames + 1 ≤ rm.frames ∧ 8 + (maxL + 11) + rmc.locals ≤ rm.locals)
def zCI (own : String) (Ts : List Cond) (index : Nat) (y : MethodName) (ws : List Cond) (bytes : ByteArray) (maxL : Nat) (rm rmc : Room) (na : Nat) : Prop := ∃ ws', GoodIn Ts ws ∧ (Cond.methodLink own index y ∈ Ts ∨ ∃ host, Cond.methodLinkNest own index y host ∈ zNest) ∧ Cond.initialized y.cls ∈ Ts ∧ Cond.instanceMethod y ∈ Ts ∧ y.name = "<init>" ∧ ws = Cond.code y bytes maxL none :: ws' ∧ (y.cls ≠ "java/lang/invoke/MethodHandle" ∧ y.cls ≠ "java/lang/invoke/VarHandle" ∧ (parseMethodDescriptor y.desc).map (fun d => d.parameters.length) = some na) ∧ (rmc.frames + 1 ≤ rm.frames ∧ 8 + (maxL + 11) + rmc.locals ≤ rm.locals)
section
variable {K : zC} {n k : Nat} {H : Heap} {pc : Nat} {lv : List (Nat × Value)} {st : List Value} {cc : ByteArray} {own : String} {Ts : List Cond} {D : zD} {base : Nat} {rm : Room} {nL : Nat}
theorem gVi (X : GX K cc own Ts D base rm nL) {y : MethodName} {ws : List Cond} {rmc : Room} {As : List Value} {Pre : Heap → Prop} {bytes : ByteArray} {maxL index na : Nat} {ret : Option FieldType} {rest : List Value} {n2 k2 : Nat} {P : Heap → Int → Heap → Prop} {ci q : Nat} {fs : List Value} (cs : zCV own Ts index ci y ws bytes maxL ret rm rmc na) (hM : Ct (zl K) y ws rmc D base (.ref q :: As) Pre (PI P)) (hn : As.length = na) (hO : Ob D q ci fs H) (hq : base ≤ q) (hP : Pre H) (hst : st = As.reverse ++ .ref q :: rest) (hf : n + rmc.cells ≤ rm.cells ∧ k + rmc.slots ≤ rm.slots) (hdg : decode cc pc = .ok (.invokevirtual index, 3)) (hW : (rest.map fun v => v.category).sum ≤ 8) (hn2 : n + rmc.cells = n2) (hk2 : k + rmc.slots = k2) (kk : ∀ (r : Int) (H1 : Heap), P H r H1 → H.size ≤ H1.size → G K n2 k2 H1 (pc + 3) lv (.int (J r) :: rest)) : G K n k H pc lv st := by
  obtain ⟨r, ws', h1, h2, h3, h4, h5, h6⟩ := cs
  exact g_callV X hM h1 h2 na ⟨rfl, h3⟩ hn h4 hf h5 h6 hO (Nat.le_trans hq (Nat.le_of_lt hO.lt)) hP hdg hst hW (fun v H1 hp hs => by obtain ⟨r, rfl, hp⟩ := hp; subst hn2; subst hk2; exact kk r H1 hp hs)
theorem gSi (X : GX K cc own Ts D base rm nL) {y : MethodName} {ws : List Cond} {rmc : Room} {As : List Value} {Pre : Heap → Prop} {bytes : ByteArray} {maxL index na : Nat} {ret : Option FieldType} {rest : List Value} {n2 k2 : Nat} {P : Heap → Int → Heap → Prop} (cs : zCS own Ts index y ws bytes maxL ret rm rmc na) (hM : Ct (zl K) y ws rmc D base As Pre (PI P)) (hn : As.length = na) (hb : base ≤ H.size) (hP : Pre H) (hst : st = As.reverse ++ rest) (hf : n + rmc.cells ≤ rm.cells ∧ k + rmc.slots ≤ rm.slots) (hdg : decode cc pc = .ok (.invokestatic index, 3)) (hW : (rest.map fun v => v.category).sum ≤ 8) (hn2 : n + rmc.cells = n2) (hk2 : k + rmc.slots = k2) (kk : ∀ (r : Int) (H1 : Heap), P H r H1 → H.size ≤ H1.size → G K n2 k2 H1 (pc + 3) lv (.int (J r) :: rest)) : G K n k H pc lv st := by
  obtain ⟨ws', h1, h2, h3, h4⟩ := cs
  exact g_callS X hM h1 h2 na h3 hn h4 hf hb hP hdg hst hW (fun v H1 hp hs => by obtain ⟨r, rfl, hp⟩ := hp; subst hn2; subst hk2; exact kk r H1 hp hs)
theorem gJi (X : GX K cc own Ts D base rm nL) {y : MethodName} {ws : List Cond} {rmc : Room} {As : List Value} {Pre : Heap → Prop} {bytes : ByteArray} {maxL index na : Nat} {ret : Option FieldType} {rest : List Value} {n2 k2 : Nat} {P : Heap → Int → Heap → Prop} (cs : zCJ own Ts index y ws bytes maxL ret rm rmc na) (hM : Ct (zl K) y ws rmc D base As Pre (PI P)) (hn : As.length = na) (hb : base ≤ H.size) (hP : Pre H) (hst : st = As.reverse ++ rest) (hf : n + rmc.cells ≤ rm.cells ∧ k + rmc.slots ≤ rm.slots) (hdg : decode cc pc = .ok (.invokestatic index, 3)) (hW : (rest.map fun v => v.category).sum ≤ 8) (hn2 : n + rmc.cells = n2) (hk2 : k + rmc.slots = k2) (kk : ∀ (r : Int) (H1 : Heap), P H r H1 → H.size ≤ H1.size → G K n2 k2 H1 (pc + 3) lv (.int (J r) :: rest)) : G K n k H pc lv st := by
  obtain ⟨ws', h1, h2, h3, h4⟩ := cs
  exact g_callJ X hM h1 h2 na h3 hn h4 hf hb hP hdg hst hW (fun v H1 hp hs => by obtain ⟨r, rfl, hp⟩ := hp; subst hn2; subst hk2; exact kk r H1 hp hs)
theorem gNi (X : GX K cc own Ts D base rm nL) {y : MethodName} {ws : List Cond} {rmc : Room} {As : List Value} {Pre : Heap → Prop} {bytes : ByteArray} {maxL index na : Nat} {ret : Option FieldType} {rest : List Value} {n2 k2 : Nat} {P : Heap → Int → Heap → Prop} (cs : zCN own Ts index y ws bytes maxL ret rm rmc na) (hM : Ct (zl K) y ws rmc D base As Pre (PI P)) (hn : As.length = na) (hb : base ≤ H.size) (hP : Pre H) (hst : st = As.reverse ++ rest) (hf : n + rmc.cells ≤ rm.cells ∧ k + rmc.slots ≤ rm.slots) (hdg : decode cc pc = .ok (.invokestatic index, 3)) (hW : (rest.map fun v => v.category).sum ≤ 8) (hn2 : n + rmc.cells = n2) (hk2 : k + rmc.slots = k2) (kk : ∀ (r : Int) (H1 : Heap), P H r H1 → H.size ≤ H1.size → G K n2 k2 H1 (pc + 3) lv (.int (J r) :: rest)) : G K n k H pc lv st := by
  obtain ⟨host, ws', h1, h2, h3, h4, h5, h6, h7⟩ := cs
  exact g_callSN X hM h1 h2 h3 h4 h5 na h6 hn h7 hf hb hP hdg hst hW (fun v H1 hp hs => by obtain ⟨r, rfl, hp⟩ := hp; subst hn2; subst hk2; exact kk r H1 hp hs)
theorem gVv (X : GX K cc own Ts D base rm nL) {y : MethodName} {ws : List Cond} {rmc : Room} {As : List Value} {Pre : Heap → Prop} {bytes : ByteArray} {maxL index na : Nat} {ret : Option FieldType} {rest : List Value} {n2 k2 : Nat} {P : Heap → Heap → Prop} {ci q : Nat} {fs : List Value} (cs : zCV own Ts index ci y ws bytes maxL ret rm rmc na) (hM : Ct (zl K) y ws rmc D base (.ref q :: As) Pre (PV P)) (hn : As.length = na) (hO : Ob D q ci fs H) (hq : base ≤ q) (hP : Pre H) (hst : st = As.reverse ++ .ref q :: rest) (hf : n + rmc.cells ≤ rm.cells ∧ k + rmc.slots ≤ rm.slots) (hdg : decode cc pc = .ok (.invokevirtual index, 3)) (hW : (rest.map fun v => v.category).sum ≤ 8) (hn2 : n + rmc.cells = n2) (hk2 : k + rmc.slots = k2) (kk : ∀ (H1 : Heap), P H H1 → H.size ≤ H1.size → G K n2 k2 H1 (pc + 3) lv rest) : G K n k H pc lv st := by
  obtain ⟨r, ws', h1, h2, h3, h4, h5, h6⟩ := cs
  exact g_callV X hM h1 h2 na ⟨rfl, h3⟩ hn h4 hf h5 h6 hO (Nat.le_trans hq (Nat.le_of_lt hO.lt)) hP hdg hst hW (fun v H1 hp hs => by obtain ⟨rfl, hp⟩ := hp; subst hn2; subst hk2; exact kk H1 hp hs)
theorem gSv (X : GX K cc own Ts D base rm nL) {y : MethodName} {ws : List Cond} {rmc : Room} {As : List Value} {Pre : Heap → Prop} {bytes : ByteArray} {maxL index na : Nat} {ret : Option FieldType} {rest : List Value} {n2 k2 : Nat} {P : Heap → Heap → Prop} (cs : zCS own Ts index y ws bytes maxL ret rm rmc na) (hM : Ct (zl K) y ws rmc D base As Pre (PV P)) (hn : As.length = na) (hb : base ≤ H.size) (hP : Pre H) (hst : st = As.reverse ++ rest) (hf : n + rmc.cells ≤ rm.cells ∧ k + rmc.slots ≤ rm.slots) (hdg : decode cc pc = .ok (.invokestatic index, 3)) (hW : (rest.map fun v => v.category).sum ≤ 8) (hn2 : n + rmc.cells = n2) (hk2 : k + rmc.slots = k2) (kk : ∀ (H1 : Heap), P H H1 → H.size ≤ H1.size → G K n2 k2 H1 (pc + 3) lv rest) : G K n k H pc lv st := by
  obtain ⟨ws', h1, h2, h3, h4⟩ := cs
  exact g_callS X hM h1 h2 na h3 hn h4 hf hb hP hdg hst hW (fun v H1 hp hs => by obtain ⟨rfl, hp⟩ := hp; subst hn2; subst hk2; exact kk H1 hp hs)
theorem gJv (X : GX K cc own Ts D base rm nL) {y : MethodName} {ws : List Cond} {rmc : Room} {As : List Value} {Pre : Heap → Prop} {bytes : ByteArray} {maxL index na : Nat} {ret : Option FieldType} {rest : List Value} {n2 k2 : Nat} {P : Heap → Heap → Prop} (cs : zCJ own Ts index y ws bytes maxL ret rm rmc na) (hM : Ct (zl K) y ws rmc D base As Pre (PV P)) (hn : As.length = na) (hb : base ≤ H.size) (hP : Pre H) (hst : st = As.reverse ++ rest) (hf : n + rmc.cells ≤ rm.cells ∧ k + rmc.slots ≤ rm.slots) (hdg : decode cc pc = .ok (.invokestatic index, 3)) (hW : (rest.map fun v => v.category).sum ≤ 8) (hn2 : n + rmc.cells = n2) (hk2 : k + rmc.slots = k2) (kk : ∀ (H1 : Heap), P H H1 → H.size ≤ H1.size → G K n2 k2 H1 (pc + 3) lv rest) : G K n k H pc lv st := by
  obtain ⟨ws', h1, h2, h3, h4⟩ := cs
  exact g_callJ X hM h1 h2 na h3 hn h4 hf hb hP hdg hst hW (fun v H1 hp hs => by obtain ⟨rfl, hp⟩ := hp; subst hn2; subst hk2; exact kk H1 hp hs)
theorem gNv (X : GX K cc own Ts D base rm nL) {y : MethodName} {ws : List Cond} {rmc : Room} {As : List Value} {Pre : Heap → Prop} {bytes : ByteArray} {maxL index na : Nat} {ret : Option FieldType} {rest : List Value} {n2 k2 : Nat} {P : Heap → Heap → Prop} (cs : zCN own Ts index y ws bytes maxL ret rm rmc na) (hM : Ct (zl K) y ws rmc D base As Pre (PV P)) (hn : As.length = na) (hb : base ≤ H.size) (hP : Pre H) (hst : st = As.reverse ++ rest) (hf : n + rmc.cells ≤ rm.cells ∧ k + rmc.slots ≤ rm.slots) (hdg : decode cc pc = .ok (.invokestatic index, 3)) (hW : (rest.map fun v => v.category).sum ≤ 8) (hn2 : n + rmc.cells = n2) (hk2 : k + rmc.slots = k2) (kk : ∀ (H1 : Heap), P H H1 → H.size ≤ H1.size → G K n2 k2 H1 (pc + 3) lv rest) : G K n k H pc lv st := by
  obtain ⟨host, ws', h1, h2, h3, h4, h5, h6, h7⟩ := cs
  exact g_callSN X hM h1 h2 h3 h4 h5 na h6 hn h7 hf hb hP hdg hst hW (fun v H1 hp hs => by obtain ⟨rfl, hp⟩ := hp; subst hn2; subst hk2; exact kk H1 hp hs)
theorem gVr (X : GX K cc own Ts D base rm nL) {y : MethodName} {ws : List Cond} {rmc : Room} {As : List Value} {Pre : Heap → Prop} {bytes : ByteArray} {maxL index na : Nat} {ret : Option FieldType} {rest : List Value} {n2 k2 : Nat} {P : Heap → Value → Heap → Prop} {ci q : Nat} {fs : List Value} (cs : zCV own Ts index ci y ws bytes maxL ret rm rmc na) (hM : Ct (zl K) y ws rmc D base (.ref q :: As) Pre (PR P)) (hn : As.length = na) (hO : Ob D q ci fs H) (hq : base ≤ q) (hP : Pre H) (hst : st = As.reverse ++ .ref q :: rest) (hf : n + rmc.cells ≤ rm.cells ∧ k + rmc.slots ≤ rm.slots) (hdg : decode cc pc = .ok (.invokevirtual index, 3)) (hW : (rest.map fun v => v.category).sum ≤ 8) (hn2 : n + rmc.cells = n2) (hk2 : k + rmc.slots = k2) (kk : ∀ (r : Value) (H1 : Heap), P H r H1 → H.size ≤ H1.size → G K n2 k2 H1 (pc + 3) lv (r :: rest)) : G K n k H pc lv st := by
  obtain ⟨r, ws', h1, h2, h3, h4, h5, h6⟩ := cs
  exact g_callV X hM h1 h2 na ⟨rfl, h3⟩ hn h4 hf h5 h6 hO (Nat.le_trans hq (Nat.le_of_lt hO.lt)) hP hdg hst hW (fun v H1 hp hs => by obtain ⟨r, rfl, hp⟩ := hp; subst hn2; subst hk2; exact kk r H1 hp hs)
theorem gSr (X : GX K cc own Ts D base rm nL) {y : MethodName} {ws : List Cond} {rmc : Room} {As : List Value} {Pre : Heap → Prop} {bytes : ByteArray} {maxL index na : Nat} {ret : Option FieldType} {rest : List Value} {n2 k2 : Nat} {P : Heap → Value → Heap → Prop} (cs : zCS own Ts index y ws bytes maxL ret rm rmc na) (hM : Ct (zl K) y ws rmc D base As Pre (PR P)) (hn : As.length = na) (hb : base ≤ H.size) (hP : Pre H) (hst : st = As.reverse ++ rest) (hf : n + rmc.cells ≤ rm.cells ∧ k + rmc.slots ≤ rm.slots) (hdg : decode cc pc = .ok (.invokestatic index, 3)) (hW : (rest.map fun v => v.category).sum ≤ 8) (hn2 : n + rmc.cells = n2) (hk2 : k + rmc.slots = k2) (kk : ∀ (r : Value) (H1 : Heap), P H r H1 → H.size ≤ H1.size → G K n2 k2 H1 (pc + 3) lv (r :: rest)) : G K n k H pc lv st := by
  obtain ⟨ws', h1, h2, h3, h4⟩ := cs
  exact g_callS X hM h1 h2 na h3 hn h4 hf hb hP hdg hst hW (fun v H1 hp hs => by obtain ⟨r, rfl, hp⟩ := hp; subst hn2; subst hk2; exact kk r H1 hp hs)
theorem gJr (X : GX K cc own Ts D base rm nL) {y : MethodName} {ws : List Cond} {rmc : Room} {As : List Value} {Pre : Heap → Prop} {bytes : ByteArray} {maxL index na : Nat} {ret : Option FieldType} {rest : List Value} {n2 k2 : Nat} {P : Heap → Value → Heap → Prop} (cs : zCJ own Ts index y ws bytes maxL ret rm rmc na) (hM : Ct (zl K) y ws rmc D base As Pre (PR P)) (hn : As.length = na) (hb : base ≤ H.size) (hP : Pre H) (hst : st = As.reverse ++ rest) (hf : n + rmc.cells ≤ rm.cells ∧ k + rmc.slots ≤ rm.slots) (hdg : decode cc pc = .ok (.invokestatic index, 3)) (hW : (rest.map fun v => v.category).sum ≤ 8) (hn2 : n + rmc.cells = n2) (hk2 : k + rmc.slots = k2) (kk : ∀ (r : Value) (H1 : Heap), P H r H1 → H.size ≤ H1.size → G K n2 k2 H1 (pc + 3) lv (r :: rest)) : G K n k H pc lv st := by
  obtain ⟨ws', h1, h2, h3, h4⟩ := cs
  exact g_callJ X hM h1 h2 na h3 hn h4 hf hb hP hdg hst hW (fun v H1 hp hs => by obtain ⟨r, rfl, hp⟩ := hp; subst hn2; subst hk2; exact kk r H1 hp hs)
theorem gNr (X : GX K cc own Ts D base rm nL) {y : MethodName} {ws : List Cond} {rmc : Room} {As : List Value} {Pre : Heap → Prop} {bytes : ByteArray} {maxL index na : Nat} {ret : Option FieldType} {rest : List Value} {n2 k2 : Nat} {P : Heap → Value → Heap → Prop} (cs : zCN own Ts index y ws bytes maxL ret rm rmc na) (hM : Ct (zl K) y ws rmc D base As Pre (PR P)) (hn : As.length = na) (hb : base ≤ H.size) (hP : Pre H) (hst : st = As.reverse ++ rest) (hf : n + rmc.cells ≤ rm.cells ∧ k + rmc.slots ≤ rm.slots) (hdg : decode cc pc = .ok (.invokestatic index, 3)) (hW : (rest.map fun v => v.category).sum ≤ 8) (hn2 : n + rmc.cells = n2) (hk2 : k + rmc.slots = k2) (kk : ∀ (r : Value) (H1 : Heap), P H r H1 → H.size ≤ H1.size → G K n2 k2 H1 (pc + 3) lv (r :: rest)) : G K n k H pc lv st := by
  obtain ⟨host, ws', h1, h2, h3, h4, h5, h6, h7⟩ := cs
  exact g_callSN X hM h1 h2 h3 h4 h5 na h6 hn h7 hf hb hP hdg hst hW (fun v H1 hp hs => by obtain ⟨r, rfl, hp⟩ := hp; subst hn2; subst hk2; exact kk r H1 hp hs)
theorem gIv (X : GX K cc own Ts D base rm nL) {y : MethodName} {ws : List Cond} {rmc : Room} {As : List Value} {Pre : Heap → Prop} {bytes : ByteArray} {maxL index na : Nat} {rest : List Value} {n2 k2 : Nat} {P : Heap → Heap → Prop} {q : Nat} (cs : zCI own Ts index y ws bytes maxL rm rmc na) (hM : Ct (zl K) y ws rmc D base (.ref q :: As) Pre (PV P)) (hn : As.length = na) (hb : base ≤ H.size) (hP : Pre H) (hst : st = As.reverse ++ .ref q :: rest) (hf : n + rmc.cells ≤ rm.cells ∧ k + rmc.slots ≤ rm.slots) (hdg : decode cc pc = .ok (.invokespecial index, 3)) (hW : (rest.map fun v => v.category).sum ≤ 8) (hn2 : n + rmc.cells = n2) (hk2 : k + rmc.slots = k2) (kk : ∀ (H1 : Heap), P H H1 → H.size ≤ H1.size → G K n2 k2 H1 (pc + 3) lv rest) : G K n k H pc lv st := by
  obtain ⟨ws', h1, h2, h3, h4, h5, h6, h7, h8⟩ := cs
  rcases h2 with h2 | ⟨host, h2⟩
  · exact g_callI (ret := none) X hM h1 h2 h3 h4 h5 h6 na h7 hn h8 hf hb hP hdg hst hW (fun v H1 hp hs => by obtain ⟨rfl, hp⟩ := hp; subst hn2; subst hk2; exact kk H1 hp hs)
  · exact g_callIN (ret := none) X hM h1 h2 h3 h4 h5 h6 na h7 hn h8 hf hb hP hdg hst hW (fun v H1 hp hs => by obtain ⟨rfl, hp⟩ := hp; subst hn2; subst hk2; exact kk H1 hp hs)
theorem g_iret (X : GX K cc own Ts D base rm nL) {mc ms : Nat} {P : Heap → Int → Heap → Prop} {H0 : Heap} (R : GR K (some .int) base mc ms (PI P)) (hH : (zs K).heap = H0) {z : Int} (hd : decode cc pc = .ok (.ireturn, 1)) (hp : P H0 z H) : G K mc ms H pc lv [.int (J z)] := g_ireturn X R (by rw [hH]; exact ⟨z, rfl, hp⟩) hd
theorem g_zret (X : GX K cc own Ts D base rm nL) {mc ms : Nat} {P : Heap → Int → Heap → Prop} {H0 : Heap} (R : GR K (some .boolean) base mc ms (PI P)) (hH : (zs K).heap = H0) {z : Int} (hz : z = 0 ∨ z = 1) (hd : decode cc pc = .ok (.ireturn, 1)) (hp : P H0 z H) : G K mc ms H pc lv [.int (J z)] := g_zreturn X R (by rcases hz with rfl | rfl <;> rfl) (by rw [hH]; exact ⟨z, rfl, hp⟩) hd
theorem g_vret (X : GX K cc own Ts D base rm nL) {mc ms : Nat} {P : Heap → Heap → Prop} {H0 : Heap} (R : GR K none base mc ms (PV P)) (hH : (zs K).heap = H0) (hd : decode cc pc = .ok (.return_, 1)) (hp : P H0 H) : G K mc ms H pc lv [] := g_vreturn X R (by rw [hH]; exact ⟨rfl, hp⟩) hd
theorem g_aret (X : GX K cc own Ts D base rm nL) {mc ms : Nat} {P : Heap → Value → Heap → Prop} {C : String} {H0 : Heap} (R : GR K (some (.object C)) base mc ms (PR P)) (hH : (zs K).heap = H0) {v : Value} (hv : v = .null ∨ ∃ a, v = .ref a) (hd : decode cc pc = .ok (.areturn, 1)) (hp : P H0 v H) : G K mc ms H pc lv [v] := g_areturn X R hv (by rw [hH]; exact ⟨v, rfl, hp⟩) hd
end

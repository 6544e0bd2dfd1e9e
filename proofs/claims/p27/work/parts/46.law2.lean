/-! the law: its script, its ends, what the tables give at its start -/
abbrev rm_L_law : Room := room_1
def sx (xs : Nat → Int32) (i : Int) : Int := (xs i.toNat).toInt
theorem sx_rg (xs : Nat → Int32) (i : Int) : rg (sx xs i) := rg_toInt _
section
variable {K : zC} {n k : Nat} {H : Heap} {pc : Nat} {lv : List (Nat × Value)} {st : List Value} {cc : ByteArray} {own : String} {Ts : List Cond} {D : zD} {base : Nat} {rm : Room} {nL : Nat}
theorem g_sld (X : GX K cc own Ts D base rm nL) {b L : Nat} {xs : Nat → Int32} {i : Int} (hX : va_X b L xs (zs K) (zs K).heap) (hbl : b < (zs K).heap.size) (hbb : b < base) (hi : 0 ≤ i ∧ i < L ∧ L ≤ 260) (hd : decode cc pc = .ok (.iaload, 1)) (kk : G K n k H (pc + 1) lv (.int (J (sx xs i)) :: st)) : G K n k H pc lv (.int (J i) :: .ref b :: st) := fun locs ls hS h => by
  have hri : rg i := ⟨by omega, by omega⟩
  refine va_sld X.1 X.2.1 hX hbl (fun z : zba K ≤ b => by rw [X.2.2.2.2.2.2.2.1] at z; omega) hS (J_in hi.1 hi.2.1 (by omega)) hd ?_
  rw [J_cl hri, J_of (xs i.toNat)]
  exact kk locs ls hS h
theorem g_slen (X : GX K cc own Ts D base rm nL) {b L : Nat} {xs : Nat → Int32} (hX : va_X b L xs (zs K) (zs K).heap) (hbl : b < (zs K).heap.size) (hbb : b < base) (hd : decode cc pc = .ok (.arraylength, 1)) (kk : G K n k H (pc + 1) lv (.int (J (L : Int)) :: st)) : G K n k H pc lv (.ref b :: st) := fun locs ls hS h => by
  refine va_slen X.1 X.2.1 hX hbl (fun z : zba K ≤ b => by rw [X.2.2.2.2.2.2.2.1] at z; omega) hS hd ?_
  rw [J_nat]
  exact kk locs ls hS h
theorem g_icmp_same (X : GX K cc own Ts D base rm nL) {x : Int32} {off : Int} (tgt : Nat) (hd : decode cc pc = .ok (.if_icmp .eq off, 3)) (ht : (pc : Int) + off = (tgt : Int)) (kk : G K n k H tgt lv st) : G K n k H pc lv (.int x :: .int x :: st) := fun locs ls hS h => lv_icmp_eq X.1 X.2.1 hd ht (fun _ => kk locs ls hS h) (fun q => absurd rfl q)
end
theorem ar_kn {s : State} {args : Array Value} {ty : FieldType} (h : (Cond.arrayClass ty).before args s = true) (hty : ty = .int ∨ ty = .boolean) : ∃ cA : ClassId, ArrOfT s cA ty ∧ va_RA s cA ty := by
  obtain ⟨cA, kA, comp, h1, h2, h3⟩ := Cond.arrayClass_spec h
  refine ⟨cA, fun n z => ⟨fun k h => (by cases h), kA, h2, comp, h3⟩, ?_⟩
  rcases hty with rfl | rfl <;> exact h1
theorem ao_kn {s : State} {args : Array Value} {C : String} (h : (Cond.arrayOver (.object C)).before args s = true) : ∃ cA : ClassId, ArrOfT s cA (.object C) ∧ va_RA s cA (.object C) := by
  obtain ⟨comp, cA, kA, f1, -, f2, f3, f4⟩ := Cond.arrayOver_spec h
  exact ⟨cA, fun n z => ⟨fun k h => (by cases h), kA, f2, comp, f3⟩, kA, comp, f2, f3, f1, f4⟩
theorem law_kn {s : State} {b : Nat} (hts : ∀ w ∈ lw_tbl, w.before #[Value.ref b] s = true) : ∃ D : zD, zKn D s := by
  obtain ⟨c0, i0, k0⟩ := u_known (C := RX0) (T := TX0) (N := 2) (n := 2) hts inX0 (hts (.instantiable RX0 2) (by decide +kernel))
  obtain ⟨c1, i1, k1⟩ := u_known (C := RX1) (T := TX1) (N := 7) (n := 7) hts inX1 (hts (.instantiable RX1 7) (by decide +kernel))
  obtain ⟨c2, i2, k2⟩ := u_known (C := RX2) (T := TX2) (N := 4) (n := 4) hts inX2 (hts (.instantiable RX2 4) (by decide +kernel))
  obtain ⟨c3, i3, k3⟩ := u_known (C := RX3) (T := TX3) (N := 4) (n := 4) hts inX3 (hts (.instantiable RX3 4) (by decide +kernel))
  obtain ⟨c4, i4, k4⟩ := u_known (C := RX4) (T := TX4) (N := 6) (n := 6) hts inX4 (hts (.instantiable RX4 6) (by decide +kernel))
  obtain ⟨c5, i5, k5⟩ := u_known (C := RX5) (T := TX5) (N := 4) (n := 4) hts inX5 (hts (.instantiable RX5 4) (by decide +kernel))
  obtain ⟨c6, i6, k6⟩ := u_known (C := RX6) (T := TX6) (N := 2) (n := 2) hts inX6 (hts (.instantiable RX6 2) (by decide +kernel))
  obtain ⟨c7, i7, k7⟩ := u_known (C := RX7) (T := TX7) (N := 3) (n := 3) hts inX7 (hts (.instantiable RX7 3) (by decide +kernel))
  obtain ⟨c8, i8, k8⟩ := u_known (C := RX8) (T := TX8) (N := 7) (n := 7) hts inX8 (hts (.instantiable RX8 7) (by decide +kernel))
  have o2 := hts (.arrayOver (.object "AnchoredNotes$Note")) (by decide +kernel)
  have o3 := hts (.arrayOver (.object "AnchoredNotes$Page")) (by decide +kernel)
  obtain ⟨d0, e0⟩ := ar_kn (hts (.arrayClass .int) (by decide +kernel)) (Or.inl rfl)
  obtain ⟨d2, e2⟩ := ao_kn o2
  obtain ⟨d3, e3⟩ := ao_kn o3
  obtain ⟨dC, dI, hKc⟩ : ∃ (dC : Nat → ClassId) (dI : Nat → Nat → Nat), ∀ (k : Nat) (q : vw_C), vwCl[k]? = some q → u_Kn s q.1 q.2.1 q.2.2 (dC k) (dI k) := by
    refine ⟨fun k => match k with | 0 => c0 | 1 => c1 | 2 => c2 | 3 => c3 | 4 => c4 | 5 => c5 | 6 => c6 | 7 => c7 | _ => c8, fun k => match k with | 0 => i0 | 1 => i1 | 2 => i2 | 3 => i3 | 4 => i4 | 5 => i5 | 6 => i6 | 7 => i7 | _ => i8, ?_⟩
    intro k q hq
    match k, hq with
    | 0, hq => cases hq; exact k0
    | 1, hq => cases hq; exact k1
    | 2, hq => cases hq; exact k2
    | 3, hq => cases hq; exact k3
    | 4, hq => cases hq; exact k4
    | 5, hq => cases hq; exact k5
    | 6, hq => cases hq; exact k6
    | 7, hq => cases hq; exact k7
    | 8, hq => cases hq; exact k8
    | k + 9, hq => simp [vwCl] at hq
  refine ⟨(dC, dI, fun k => match k with | 0 => d0 | 1 => d0 | 2 => d2 | _ => d3), ⟨hKc, ?_⟩, va_AO.of o2, va_AO.of o3, ?_⟩
  · intro k q hq
    match k, hq with
    | 0, hq => cases hq; exact e0
    | 1, hq => cases hq; exact e0
    | 2, hq => cases hq; exact e2
    | 3, hq => cases hq; exact e3
    | k + 4, hq => simp [zTys] at hq
  · intro w hw
    simp only [zNest, List.mem_cons, List.not_mem_nil, or_false] at hw
    rcases hw with rfl | rfl | rfl | rfl | rfl | rfl | rfl | rfl
    · exact va_Nw.of rfl (hts _ (by decide +kernel))
    · exact va_Nw.of rfl (hts _ (by decide +kernel))
    · exact va_Nw.of rfl (hts _ (by decide +kernel))
    · exact va_Nw.of rfl (hts _ (by decide +kernel))
    · exact va_Nw.of rfl (hts _ (by decide +kernel))
    · exact va_Nw.of rfl (hts _ (by decide +kernel))
    · exact va_Nw.of rfl (hts _ (by decide +kernel))
    · exact va_Nw.of rfl (hts _ (by decide +kernel))

section
variable {D : zD} {x lo : Nat} {m : Int} {sa sl : Int → Option Nat} {st ss : Int → Int → Int} {g : Int → Int} {n : Int} {f : Int → Int} {H H1 : Heap}
theorem AnAt.fr {a b d : Nat} (h : AnAt D x lo m sa sl st ss g n f H) (fr : Fr (Iv a b) d H H1) (e : b ≤ lo ∧ (x + 140 ≤ a ∨ b ≤ x)) : AnAt D x lo m sa sl st ss g n f H1 := by
  obtain ⟨hO, hPg, hMg, hSc, hPd, hRd, hHs, hSl⟩ := h
  exact ⟨hO.fr fr (by omega), hPg.fr fr (by omega), hMg.fr fr (by omega), hSc.fr fr (by omega), hPd.fr fr (by omega), hRd.fr fr (by omega), hHs.fr fr (by omega), hSl.fr fr (by omega)⟩
/-- the pages that are kept lie ahead of y -/
def PgB (y : Nat) (sa sl : Int → Option Nat) : Prop := (∀ (i : Int) (a : Nat), 0 ≤ i → i < 7 → sa i = some a → a + 121 ≤ y) ∧ ∀ (i : Int) (a : Nat), 0 ≤ i → i < 2 → sl i = some a → a + 121 ≤ y
theorem AnAt.pgb (h : AnAt D x lo m sa sl st ss g n f H) : PgB H.size sa sl ∧ x + 140 ≤ H.size := by
  obtain ⟨hO, hPg, hMg, hSc, hPd, hRd, hHs, hSl⟩ := h
  exact ⟨⟨fun i a i0 i1 e => (hHs.2.2.1.1 i a i0 i1 e).2.1, fun i a i0 i1 e => (hSl.2.1.1 i a i0 i1 e).2.1⟩, hSl.1.lt⟩
/-- a cell behind all that is kept is written -/
theorem AnAt.off {y z d : Nat} (h : AnAt D x lo m sa sl st ss g n f H) (fr : Fr (Iv y z) d H H1) (hy : x + 140 ≤ y) (hb : PgB y sa sl) : AnAt D x lo m sa sl st ss g n f H1 := by
  obtain ⟨hO, hPg, hMg, hSc, hPd, hRd, ⟨a1, a2, a3, a4, a5, a6⟩, ⟨b1, b2, b3, b4⟩⟩ := h
  have hs := fr.1
  refine ⟨hO.fr fr (by omega), hPg.fr fr (by omega), hMg.fr fr (by omega), hSc.fr fr (by omega), hPd.fr fr (by omega), hRd.fr fr (by omega), ⟨a1.fr fr (by omega), a2.fr fr (by omega), ⟨fun i a i0 i1 e => ?_, a3.2⟩, fun i i0 i1 => ?_, a5, a6⟩, ⟨b1.fr fr (by omega), ⟨fun i a i0 i1 e => ?_, b2.2⟩, fun j b j0 j1 e => ?_, b4⟩⟩
  · obtain ⟨k1, k2, gg, k3⟩ := a3.1 i a i0 i1 e
    have := hb.1 i a i0 i1 e
    exact ⟨k1, by omega, gg, k3.fr fr (by omega)⟩
  · obtain ⟨q, k1, k2⟩ := a4 i i0 i1
    have := hb.1 i q i0 (by omega) k1
    exact ⟨q, k1, k2.fr fr (by omega)⟩
  · obtain ⟨k1, k2, gg, k3⟩ := b2.1 i a i0 i1 e
    have := hb.2 i a i0 i1 e
    exact ⟨k1, by omega, gg, k3.fr fr (by omega)⟩
  · have := hb.2 j b j0 j1 e
    exact (b3 j b j0 j1 e).fr fr (by omega)
end
section
variable (g : Int → Int) (n m : Int)
theorem ct_0 : ctR g n m 0 = g 0 := if_pos rfl
theorem ct_1 : ctR g n m 1 = g 1 := (if_neg (by decide)).trans (if_pos rfl)
theorem ct_2 : ctR g n m 2 = cst g 1 := (if_neg (by decide)).trans ((if_neg (by decide)).trans (if_pos rfl))
theorem ct_3 : ctR g n m 3 = cst g 2 := (if_neg (by decide)).trans ((if_neg (by decide)).trans ((if_neg (by decide)).trans (if_pos rfl)))
theorem ct_4 : ctR g n m 4 = ptd g := (if_neg (by decide)).trans ((if_neg (by decide)).trans ((if_neg (by decide)).trans ((if_neg (by decide)).trans (if_pos rfl))))
theorem ct_6 : ctR g n m 6 = llR g (g 4) := (if_neg (by decide)).trans ((if_neg (by decide)).trans ((if_neg (by decide)).trans ((if_neg (by decide)).trans ((if_neg (by decide)).trans ((if_neg (by decide)).trans (if_pos rfl))))))
theorem ct_7 : ctR g n m 7 = laR g (g 4) := (if_neg (by decide)).trans ((if_neg (by decide)).trans ((if_neg (by decide)).trans ((if_neg (by decide)).trans ((if_neg (by decide)).trans ((if_neg (by decide)).trans ((if_neg (by decide)).trans (if_pos rfl)))))))
theorem ct_10 : ctR g n m 10 = g 4 := (if_neg (by decide)).trans ((if_neg (by decide)).trans ((if_neg (by decide)).trans ((if_neg (by decide)).trans ((if_neg (by decide)).trans ((if_neg (by decide)).trans ((if_neg (by decide)).trans ((if_neg (by decide)).trans (if_pos (by decide)))))))))
theorem ct_12 : ctR g n m 12 = m := (if_neg (by decide)).trans ((if_neg (by decide)).trans ((if_neg (by decide)).trans ((if_neg (by decide)).trans ((if_neg (by decide)).trans ((if_neg (by decide)).trans ((if_neg (by decide)).trans ((if_neg (by decide)).trans ((if_neg (by decide)).trans ((if_neg (by decide)).trans (if_pos rfl))))))))))
end
theorem PInv.first : PInv g0 := by
  have e0 : g0 0 = 0 := rfl
  have e1 : g0 1 = 0 := rfl
  refine ⟨by decide, by decide, by decide, by decide, by decide, by decide, by decide, by decide, by decide, by decide, fun i a b => ?_, fun i a b => ?_, fun i a b => ?_⟩
  · rw [e0] at b; omega
  · rw [e0] at b; omega
  · rw [e1] at b; omega
theorem Qn.first : Qn g0 := fun i a b _ => by
  have e1 : g0 1 = 0 := rfl
  rw [e1] at b; omega
/-! contracts of methods that are given the script -/
def CtS (b L : Nat) (xs : Nat → Int32) (l : Launch) (y : MethodName) (ws : List Cond) (rm : Room) (D : zD) (base : Nat) (As : List Value) (Pre : Heap → Prop) (Post : Heap → Option Value → Heap → Prop) : Prop :=
  Met l y ws rm (va_Pc As (fun U => base ≤ U.heap.size ∧ zKn D U ∧ (va_X b L xs U U.heap ∧ b < U.heap.size) ∧ Pre U.heap)) (CtQ base Post) rm.cells rm.slots (fun q => base ≤ q)
theorem CtS.of {b L : Nat} {xs : Nat → Int32} {l : Launch} {y : MethodName} {ws ws' : List Cond} {rm : Room} {D : zD} {base : Nat} {As : List Value} {Pre : Heap → Prop} {Post : Heap → Option Value → Heap → Prop} {cc : ByteArray} {maxL : Nat} {ret : Option FieldType} {own : String} (hy : plainName y.cls = true) (hw : ws = Cond.code y cc maxL ret :: ws') (hAs : (lg_sl As).length ≤ maxL) (ho : y.cls = own)
    (body : ∀ (K : zC) (H : Heap), GX K cc own ws D base rm maxL → GR K ret base rm.cells rm.slots Post → (zs K).heap = H → (zme K).name = y.name → va_X b L xs (zs K) (zs K).heap → b < (zs K).heap.size → Pre H → G K 0 0 H 0 (lv_args 0 As) []) : CtS b L xs l y ws rm D base As Pre Post := by
  refine Met.ofW (cc := cc) (maxL := maxL) (ret := ret) hy hw ?_
  intro p e s m args below meth c s₁ B hml hv
  obtain ⟨rfl, hbase, hK, ⟨hX, hbl⟩, hP⟩ := hv
  have hx := B.exec
  have hb := B.bytes
  have hr := B.returns
  have hts := atoms_spec (ws := ws) B.pre
  have hown : s.vm.findClass own = some m.cls := by rw [← ho]; exact findClass_of_methodNamed B.named
  have hlocks := B.notSynchronized
  have hnm : meth.name = y.name := (name_of_methodNamed B.named B.method).1
  have hl := lv_entry As (n := maxL) hAs
  rw [lg_entry_eq]
  have := body (p, l, e, rm, s, m, As.toArray, below, meth, c, maxL, base, MQ below (CtQ base Post) As.toArray s rm.cells rm.slots (fun q => base ≤ q)) s.heap ⟨hx, hb, hml, hown, hts, hK, hbase, rfl, rfl, rfl, hlocks⟩ ⟨hr, rfl⟩ rfl hnm hX hbl hP
  exact this [] _ va_S.rf hl
theorem zblindX {b L : Nat} {xs : Nat → Int32} {D : zD} {base : Nat} {As : List Value} {Pre : Heap → Prop} : FrameBlind (va_Pc As (fun U => base ≤ U.heap.size ∧ zKn D U ∧ (va_X b L xs U U.heap ∧ b < U.heap.size) ∧ Pre U.heap)) :=
  fun _ U _ _ q => ⟨q.1, q.2.1, zKn.calling q.2.2.1, ⟨va_X.moved (u := U) (Vm.Alike.refl U.vm) q.2.2.2.1.1, q.2.2.2.1.2⟩, q.2.2.2.2⟩
section
variable {K : zC} {n k : Nat} {H : Heap} {pc : Nat} {lv : List (Nat × Value)} {st : List Value} {cc : ByteArray} {own : String} {Ts : List Cond} {D : zD} {base : Nat} {rm : Room} {nL : Nat}
theorem g_callJX (X : GX K cc own Ts D base rm nL) {b L : Nat} {xs : Nat → Int32} (hX : va_X b L xs (zs K) (zs K).heap) (hbl : b < (zs K).heap.size) (hbb : b < base) {y : MethodName} {ws ws' : List Cond} {rmc : Room} {As : List Value} {Pre : Heap → Prop} {Post : Heap → Option Value → Heap → Prop} {bytes : ByteArray} {maxL index : Nat} {ret : Option FieldType} {rest : List Value} (hM : CtS b L xs (zl K) y ws rmc D base As Pre Post) (hG : GoodIn Ts (va_wsS own index y ws)) (hw : ws = Cond.code y bytes maxL ret :: ws') (na : Nat) (hd : y.cls ≠ "java/lang/invoke/MethodHandle" ∧ y.cls ≠ "java/lang/invoke/VarHandle" ∧ (parseMethodDescriptor y.desc).map (fun d => d.parameters.length) = some na) (hn : As.length = na)
    (hR : rmc.frames + 1 ≤ rm.frames ∧ 8 + (maxL + 11) + rmc.locals ≤ rm.locals) (hf : n + rmc.cells ≤ rm.cells ∧ k + rmc.slots ≤ rm.slots) (hbs : base ≤ H.size) (hP : Pre H) (hdg : decode cc pc = .ok (.invokestatic index, 3)) (hst : st = As.reverse ++ rest) (hW : (rest.map fun v => v.category).sum ≤ 8)
    (kk : ∀ (v : Option Value) (H1 : Heap), Post H v H1 → H.size ≤ H1.size → G K (n + rmc.cells) (k + rmc.slots) H1 (pc + 3) lv (v.toList ++ rest)) : G K n k H pc lv st := by
  intro locs ls hS h
  have hRR : zR K = rm := X.2.2.2.2.2.2.2.2.1
  have ok : ∀ w ∈ va_wsS own index y ws, w.before (zar K) (zs K) = true := fun w h => X.2.2.2.2.1 w (hG w h).1
  have hb1 : H[b]? = (zs K).heap[b]? := hS.2.1 b hbl (fun z : zba K ≤ b => by rw [X.2.2.2.2.2.2.2.1] at z; omega)
  have hb2 : b < H.size := Nat.lt_of_lt_of_le hbl hS.1
  have pre : ∀ U : State, U.heap = H → (zs K).WarmedH U.vm → va_Pc As (fun U => base ≤ U.heap.size ∧ zKn D U ∧ (va_X b L xs U U.heap ∧ b < U.heap.size) ∧ Pre U.heap) As.toArray U :=
    fun U hU hW => ⟨rfl, by rw [hU]; exact hbs, X.2.2.2.2.2.1.warm hW, ⟨by rw [hU]; exact (hX.kept hb1).moved hW.alike, by rw [hU]; exact hb2⟩, by rw [hU]; exact hP⟩
  exact zback (a := As.toArray) X hS h (va_runS X.fix hM ⟨callB_of na X.2.2.2.2.1 (fun w h => hG w (by unfold va_wsS; exact List.mem_append_right _ h)) hw rfl rfl (ok _ (by simp [va_wsS])) (ok _ (by simp [va_wsS])) hd (by rw [hRR]; exact hR), ok _ (by simp [va_wsS])⟩ ⟨zblindX, pre⟩ rfl hn h.1 hst (lv_room hW) hdg (by rw [hRR]; exact hf)) kk
theorem gJXi (X : GX K cc own Ts D base rm nL) {b L : Nat} {xs : Nat → Int32} (hX : va_X b L xs (zs K) (zs K).heap) (hbl : b < (zs K).heap.size) (hbb : b < base) {y : MethodName} {ws : List Cond} {rmc : Room} {As : List Value} {Pre : Heap → Prop} {bytes : ByteArray} {maxL index na : Nat} {ret : Option FieldType} {rest : List Value} {n2 k2 : Nat} {P : Heap → Int → Heap → Prop} (cs : zCJ own Ts index y ws bytes maxL ret rm rmc na) (hM : CtS b L xs (zl K) y ws rmc D base As Pre (PI P)) (hn : As.length = na) (hb : base ≤ H.size) (hP : Pre H) (hst : st = As.reverse ++ rest) (hf : n + rmc.cells ≤ rm.cells ∧ k + rmc.slots ≤ rm.slots) (hdg : decode cc pc = .ok (.invokestatic index, 3)) (hW : (rest.map fun v => v.category).sum ≤ 8) (hn2 : n + rmc.cells = n2) (hk2 : k + rmc.slots = k2) (kk : ∀ (r : Int) (H1 : Heap), P H r H1 → H.size ≤ H1.size → G K n2 k2 H1 (pc + 3) lv (.int (J r) :: rest)) : G K n k H pc lv st := by
  obtain ⟨ws', h1, h2, h3, h4⟩ := cs
  exact g_callJX X hX hbl hbb hM h1 h2 na h3 hn h4 hf hb hP hdg hst hW (fun v H1 hp hs => by obtain ⟨r, rfl, hp⟩ := hp; subst hn2; subst hk2; exact kk r H1 hp hs)
theorem g_irem (X : GX K cc own Ts D base rm nL) {x y z : Int32} (hd : decode cc pc = .ok (.irem, 1)) (hne : ¬ y = 0) (hz : x - x / y * y = z) (kk : G K n k H (pc + 1) lv (.int z :: st)) : G K n k H pc lv (.int y :: .int x :: st) := fun locs ls hS h => lv_irem X.1 X.2.1 hd hne (by rw [hz]; exact kk locs ls hS h)
end
/-! low, cell -/
theorem and_low (v : Int32) : ∃ t : Nat, v &&& 2147483647 = nI t ∧ t < 2 ^ 31 := by
  have h1 : (v &&& 2147483647).toBitVec.toNat = v.toBitVec.toNat &&& 2147483647 := by
    rw [Int32.toBitVec_and, BitVec.toNat_and]; rfl
  have h2 : v.toBitVec.toNat &&& 2147483647 ≤ 2147483647 := Nat.and_le_right
  have h3 : (v &&& 2147483647).toInt = ((v.toBitVec.toNat &&& 2147483647 : Nat) : Int) := by
    show (v &&& 2147483647).toBitVec.toInt = _
    rw [BitVec.toInt_eq_toNat_of_lt (by rw [h1]; omega), h1]
  refine ⟨v.toBitVec.toNat &&& 2147483647, ?_, by omega⟩
  rw [J_nI, ← h3]
  exact J_of _
abbrev rm_L_low : Room := { frames := 0, cells := 0, slots := 0, locals := 0 }
abbrev rm_L_cell : Room := { frames := 0, cells := 0, slots := 0, locals := 0 }
set_option maxRecDepth 100000 in
theorem c_L_low (l : Launch) (D : zD) (base : Nat) (v n : Int) (hv : rg v) (hn : 0 < n ∧ n < 1000) : Ct l yL_low wsL_low rm_L_low D base [.int (J v), .int (J n)] (fun _ => True) (PI (fun H r H1 => H = H1 ∧ 0 ≤ r ∧ r < n)) := by
  refine Ct.of (own := RL) (cc := cL_low) (maxL := 2) (by decide +kernel) rfl (Nat.le_of_ble_eq_true rfl) rfl ?_
  intro K H X R hH hnm hP
  show G K 0 0 H 0 [(0, .int (J v)), (1, .int (J n))] []
  obtain ⟨t, ht, ht0⟩ := and_low (J v)
  obtain ⟨d, rfl⟩ : ∃ d : Nat, n = (d : Int) := ⟨n.toNat, by omega⟩
  have hm := Nat.mod_lt t (show d > 0 by omega)
  have hr : nI t - nI t / nI d * nI d = nI (t % d) := pk_rem ht0 (by omega) (by omega)
  rw [J_nI, J_nI] at hr
  refine g_iload_n (pc := 0) (pl := 0) X dL_low_0 rfl ?_
  refine g_ldc (pc := 1) (v := 2147483647) X (by decide +kernel) dL_low_1 ?_
  refine g_iand (pc := 3) (z := nI t) X dL_low_3 ht ?_
  refine g_iload_n (pc := 4) (pl := 1) X dL_low_4 rfl ?_
  refine g_irem (pc := 5) (z := J ((t % d : Nat) : Int)) X dL_low_5 (fun z => by have := (J_inj (a := (d : Int)) (b := 0) (by omega) (by omega)).mp z; omega) (by rw [J_nI]; exact hr) ?_
  refine g_iret (pc := 6) X R hH dL_low_6 ?_
  exact ⟨rfl, by omega, by omega⟩
set_option maxRecDepth 100000 in
theorem c_L_cell (l : Launch) (D : zD) (base : Nat) (b L : Nat) (xs : Nat → Int32) (hbb : b < base) (hL : L ≤ 260) (k : Int) (hk : 0 ≤ k ∧ k < 1000) : CtS b L xs l yL_cell wsL_cell rm_L_cell D base [.ref b, .int (J k)] (fun _ => True) (PI (fun H r H1 => H = H1 ∧ rg r)) := by
  refine CtS.of (own := RL) (cc := cL_cell) (maxL := 2) (by decide +kernel) rfl (Nat.le_of_ble_eq_true rfl) rfl ?_
  intro K H X R hH hnm hX hbl hP
  show G K 0 0 H 0 [(0, .ref b), (1, .int (J k))] []
  refine g_iload_n (pc := 0) (pl := 1) X dL_cell_0 rfl ?_
  refine g_aload_n (pc := 1) (pl := 0) X dL_cell_1 rfl ?_
  refine g_slen (pc := 2) X hX hbl hbb dL_cell_2 ?_
  refine g_icmp_ge (pc := 3) X 12 dL_cell_3 (by decide) (by omega) (by omega) (fun c3 => ?_) (fun c3 => ?_)
  · refine g_ldc (pc := 12) (v := 40503) X (by decide +kernel) dL_cell_12 ?_
    rw [show (40503 : Int32) = J 40503 by decide +kernel]
    refine g_iload_n (pc := 14) (pl := 1) X dL_cell_14 rfl ?_
    refine g_imul (pc := 15) X dL_cell_15 ?_
    refine g_sipush (pc := 16) X dL_cell_16 (by decide +kernel) ?_
    refine g_iadd (pc := 19) X dL_cell_19 ?_
    refine g_iret (pc := 20) X R hH dL_cell_20 ?_
    exact ⟨rfl, by omega⟩
  · refine g_aload_n (pc := 6) (pl := 0) X dL_cell_6 rfl ?_
    refine g_iload_n (pc := 7) (pl := 1) X dL_cell_7 rfl ?_
    refine g_sld (pc := 8) (i := k) X hX hbl hbb (by omega) dL_cell_8 ?_
    refine g_goto (pc := 9) X 20 dL_cell_9 (by decide) ?_
    refine g_iret (pc := 20) X R hH dL_cell_20 ?_
    exact ⟨rfl, sx_rg xs k⟩

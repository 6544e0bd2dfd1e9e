section
variable {K : zC} {n k : Nat} {H : Heap} {pc : Nat} {lv : List (Nat × Value)} {st : List Value} {cc : ByteArray} {own : String} {Ts : List Cond} {D : zD} {base : Nat} {rm : Room} {nL : Nat}
theorem G.widen {n' k' : Nat} (h1 : n ≤ n') (h2 : k ≤ k') (kk : G K n' k' H pc lv st) : G K n k H pc lv st := fun locs ls hS hl => W.widen h1 h2 (kk locs ls hS hl)
theorem G.pick {lv' : List (Nat × Value)} (ks : List Nat) (hl : lv_pick lv ks = lv') (kk : G K n k H pc lv' st) : G K n k H pc lv st := fun locs ls hS h => kk locs ls hS (lv_sub h ks hl)
theorem g_iload (X : GX K cc own Ts D base rm nL) {i pl : Nat} {x : Int32} (hd : decode cc pc = .ok (.iload i, 2)) (hl : lv[pl]? = some (i, .int x)) (kk : G K n k H (pc + 2) lv (.int x :: st)) : G K n k H pc lv (st) := fun locs ls hS h => lv_iload X.1 X.2.1 hd (lv_at h pl hl) (kk locs ls hS h)
theorem g_iload_n (X : GX K cc own Ts D base rm nL) {j : Fin 4} {pl : Nat} {x : Int32} (hd : decode cc pc = .ok (.iload_n j, 1)) (hl : lv[pl]? = some ((j : Nat), .int x)) (kk : G K n k H (pc + 1) lv (.int x :: st)) : G K n k H pc lv (st) := fun locs ls hS h => lv_iload_n X.1 X.2.1 hd rfl (lv_at h pl hl) (kk locs ls hS h)
theorem g_lload_n (X : GX K cc own Ts D base rm nL) {j : Fin 4} {pl : Nat} {x : Int64} (hd : decode cc pc = .ok (.lload_n j, 1)) (hl : lv[pl]? = some ((j : Nat), .long x)) (kk : G K n k H (pc + 1) lv (.long x :: st)) : G K n k H pc lv (st) := fun locs ls hS h => lv_lload_n X.1 X.2.1 hd rfl (lv_at h pl hl) (kk locs ls hS h)
theorem g_aload (X : GX K cc own Ts D base rm nL) {i pl : Nat} {x : Nat} (hd : decode cc pc = .ok (.aload i, 2)) (hl : lv[pl]? = some (i, .ref x)) (kk : G K n k H (pc + 2) lv (.ref x :: st)) : G K n k H pc lv (st) := fun locs ls hS h => lv_aload X.1 X.2.1 hd (lv_at h pl hl) (kk locs ls hS h)
theorem g_aload_n (X : GX K cc own Ts D base rm nL) {j : Fin 4} {pl : Nat} {x : Nat} (hd : decode cc pc = .ok (.aload_n j, 1)) (hl : lv[pl]? = some ((j : Nat), .ref x)) (kk : G K n k H (pc + 1) lv (.ref x :: st)) : G K n k H pc lv (st) := fun locs ls hS h => lv_aload_n X.1 X.2.1 hd rfl (lv_at h pl hl) (kk locs ls hS h)
theorem g_aloadN (X : GX K cc own Ts D base rm nL) {i pl : Nat} (hd : decode cc pc = .ok (.aload i, 2)) (hl : lv[pl]? = some (i, .null)) (kk : G K n k H (pc + 2) lv (.null :: st)) : G K n k H pc lv (st) := fun locs ls hS h => lv_aloadN X.1 X.2.1 hd (lv_at h pl hl) (kk locs ls hS h)
theorem g_aload_nN (X : GX K cc own Ts D base rm nL) {j : Fin 4} {pl : Nat} (hd : decode cc pc = .ok (.aload_n j, 1)) (hl : lv[pl]? = some ((j : Nat), .null)) (kk : G K n k H (pc + 1) lv (.null :: st)) : G K n k H pc lv (st) := fun locs ls hS h => lv_aload_nN X.1 X.2.1 hd rfl (lv_at h pl hl) (kk locs ls hS h)
theorem g_istore (X : GX K cc own Ts D base rm nL) {i : Nat} {x : Int32} {lv' : List (Nat × Value)} (hd : decode cc pc = .ok (.istore i, 2)) (hn : i < nL) (hl : (i, Value.int x) :: lv.filter (fun q => !(q.1 == i) && !(q.1 + 1 == i && q.2.category == 2)) = lv') (kk : G K n k H (pc + 2) lv' st) : G K n k H pc lv (Value.int x :: st) := fun locs ls hS h => lv_istore X.1 X.2.1 hd  h (by rw [X.2.2.2.2.2.2.2.2.2.1]; exact hn) hl (fun ls2 h2 => kk locs ls2 hS h2)
theorem g_istore_n (X : GX K cc own Ts D base rm nL) {j : Fin 4} {x : Int32} {lv' : List (Nat × Value)} (hd : decode cc pc = .ok (.istore_n j, 1)) (hn : (j : Nat) < nL) (hl : ((j : Nat), Value.int x) :: lv.filter (fun q => !(q.1 == (j : Nat)) && !(q.1 + 1 == (j : Nat) && q.2.category == 2)) = lv') (kk : G K n k H (pc + 1) lv' st) : G K n k H pc lv (Value.int x :: st) := fun locs ls hS h => lv_istore_n X.1 X.2.1 hd rfl h (by rw [X.2.2.2.2.2.2.2.2.2.1]; exact hn) hl (fun ls2 h2 => kk locs ls2 hS h2)
theorem g_astore (X : GX K cc own Ts D base rm nL) {i : Nat} {x : Nat} {lv' : List (Nat × Value)} (hd : decode cc pc = .ok (.astore i, 2)) (hn : i < nL) (hl : (i, Value.ref x) :: lv.filter (fun q => !(q.1 == i) && !(q.1 + 1 == i && q.2.category == 2)) = lv') (kk : G K n k H (pc + 2) lv' st) : G K n k H pc lv (Value.ref x :: st) := fun locs ls hS h => lv_astore X.1 X.2.1 hd  h (by rw [X.2.2.2.2.2.2.2.2.2.1]; exact hn) hl (fun ls2 h2 => kk locs ls2 hS h2)
theorem g_astore_n (X : GX K cc own Ts D base rm nL) {j : Fin 4} {x : Nat} {lv' : List (Nat × Value)} (hd : decode cc pc = .ok (.astore_n j, 1)) (hn : (j : Nat) < nL) (hl : ((j : Nat), Value.ref x) :: lv.filter (fun q => !(q.1 == (j : Nat)) && !(q.1 + 1 == (j : Nat) && q.2.category == 2)) = lv') (kk : G K n k H (pc + 1) lv' st) : G K n k H pc lv (Value.ref x :: st) := fun locs ls hS h => lv_astore_n X.1 X.2.1 hd rfl h (by rw [X.2.2.2.2.2.2.2.2.2.1]; exact hn) hl (fun ls2 h2 => kk locs ls2 hS h2)
theorem g_astoreN (X : GX K cc own Ts D base rm nL) {i : Nat} {lv' : List (Nat × Value)} (hd : decode cc pc = .ok (.astore i, 2)) (hn : i < nL) (hl : (i, Value.null) :: lv.filter (fun q => !(q.1 == i) && !(q.1 + 1 == i && q.2.category == 2)) = lv') (kk : G K n k H (pc + 2) lv' st) : G K n k H pc lv (Value.null :: st) := fun locs ls hS h => lv_astoreN X.1 X.2.1 hd  h (by rw [X.2.2.2.2.2.2.2.2.2.1]; exact hn) hl (fun ls2 h2 => kk locs ls2 hS h2)
theorem g_astore_nN (X : GX K cc own Ts D base rm nL) {j : Fin 4} {lv' : List (Nat × Value)} (hd : decode cc pc = .ok (.astore_n j, 1)) (hn : (j : Nat) < nL) (hl : ((j : Nat), Value.null) :: lv.filter (fun q => !(q.1 == (j : Nat)) && !(q.1 + 1 == (j : Nat) && q.2.category == 2)) = lv') (kk : G K n k H (pc + 1) lv' st) : G K n k H pc lv (Value.null :: st) := fun locs ls hS h => lv_astore_nN X.1 X.2.1 hd rfl h (by rw [X.2.2.2.2.2.2.2.2.2.1]; exact hn) hl (fun ls2 h2 => kk locs ls2 hS h2)
theorem g_lstore_n (X : GX K cc own Ts D base rm nL) {j : Fin 4} {x : Int64} {lv' : List (Nat × Value)} (hd : decode cc pc = .ok (.lstore_n j, 1)) (hn : (j : Nat) + 1 < nL) (hl : ((j : Nat), Value.long x) :: lv.filter (fun q => !(q.1 == (j : Nat)) && (!(q.1 == (j : Nat) + 1) && !(q.1 + 1 == (j : Nat) && q.2.category == 2))) = lv') (kk : G K n k H (pc + 1) lv' st) : G K n k H pc lv (Value.long x :: st) := fun locs ls hS h => lv_lstore_n X.1 X.2.1 hd rfl h (by rw [X.2.2.2.2.2.2.2.2.2.1]; exact hn) hl (fun ls2 h2 => kk locs ls2 hS h2)
theorem g_iinc (X : GX K cc own Ts D base rm nL) {i pl : Nat} {m x : Int} {lv' : List (Nat × Value)} (hd : decode cc pc = .ok (.iinc i m, 3)) (hk : lv[pl]? = some (i, .int (J x))) (hn : i < nL) (hl : (i, Value.int (J (x + m))) :: lv.filter (fun q => !(q.1 == i) && !(q.1 + 1 == i && q.2.category == 2)) = lv') (kk : G K n k H (pc + 3) lv' st) : G K n k H pc lv st := fun locs ls hS h => lv_iinc X.1 X.2.1 hd h hk (J_add x m) (by rw [X.2.2.2.2.2.2.2.2.2.1]; exact hn) hl (fun ls2 h2 => kk locs ls2 hS h2)
theorem g_iconst (X : GX K cc own Ts D base rm nL) {z : Int} (hd : decode cc pc = .ok (.iconst z, 1)) (kk : G K n k H (pc + 1) lv (.int (J z) :: st)) : G K n k H pc lv (st) := fun locs ls hS h => lv_iconst X.1 X.2.1 hd rfl (kk locs ls hS h)
theorem g_bipush (X : GX K cc own Ts D base rm nL) {z : Int} (hd : decode cc pc = .ok (.bipush z, 2)) (hv : (Int8.ofInt z).toInt32 = J z) (kk : G K n k H (pc + 2) lv (.int (J z) :: st)) : G K n k H pc lv (st) := fun locs ls hS h => lv_bipush X.1 X.2.1 hd hv (kk locs ls hS h)
theorem g_sipush (X : GX K cc own Ts D base rm nL) {z : Int} (hd : decode cc pc = .ok (.sipush z, 3)) (hv : (Int16.ofInt z).toInt32 = J z) (kk : G K n k H (pc + 3) lv (.int (J z) :: st)) : G K n k H pc lv (st) := fun locs ls hS h => lv_sipush X.1 X.2.1 hd hv (kk locs ls hS h)
theorem g_iadd (X : GX K cc own Ts D base rm nL) {a b : Int} (hd : decode cc pc = .ok (.iadd, 1)) (kk : G K n k H (pc + 1) lv (.int (J (a + b)) :: st)) : G K n k H pc lv (.int (J b) :: .int (J a) :: st) := fun locs ls hS h => lv_iadd X.1 X.2.1 hd (by rw [J_add]; exact (kk locs ls hS h))
theorem g_isub (X : GX K cc own Ts D base rm nL) {a b : Int} (hd : decode cc pc = .ok (.isub, 1)) (kk : G K n k H (pc + 1) lv (.int (J (a - b)) :: st)) : G K n k H pc lv (.int (J b) :: .int (J a) :: st) := fun locs ls hS h => lv_isub X.1 X.2.1 hd (by rw [J_sub]; exact (kk locs ls hS h))
theorem g_imul (X : GX K cc own Ts D base rm nL) {a b : Int} (hd : decode cc pc = .ok (.imul, 1)) (kk : G K n k H (pc + 1) lv (.int (J (a * b)) :: st)) : G K n k H pc lv (.int (J b) :: .int (J a) :: st) := fun locs ls hS h => lv_imul X.1 X.2.1 hd (by rw [J_mul]; exact (kk locs ls hS h))
theorem g_iand (X : GX K cc own Ts D base rm nL) {x y z : Int32} (hd : decode cc pc = .ok (.iand, 1)) (hz : x &&& y = z) (kk : G K n k H (pc + 1) lv (.int z :: st)) : G K n k H pc lv (.int y :: .int x :: st) := fun locs ls hS h => lv_iand X.1 X.2.1 hd (by rw [hz]; exact (kk locs ls hS h))
theorem g_ior (X : GX K cc own Ts D base rm nL) {x y z : Int32} (hd : decode cc pc = .ok (.ior, 1)) (hz : x ||| y = z) (kk : G K n k H (pc + 1) lv (.int z :: st)) : G K n k H pc lv (.int y :: .int x :: st) := fun locs ls hS h => lv_ior X.1 X.2.1 hd (by rw [hz]; exact (kk locs ls hS h))
theorem g_ixor (X : GX K cc own Ts D base rm nL) {x y z : Int32} (hd : decode cc pc = .ok (.ixor, 1)) (hz : x ^^^ y = z) (kk : G K n k H (pc + 1) lv (.int z :: st)) : G K n k H pc lv (.int y :: .int x :: st) := fun locs ls hS h => lv_ixor X.1 X.2.1 hd (by rw [hz]; exact (kk locs ls hS h))
theorem g_ishl (X : GX K cc own Ts D base rm nL) {x y z : Int32} (hd : decode cc pc = .ok (.ishl, 1)) (hz : x <<< (y &&& 31) = z) (kk : G K n k H (pc + 1) lv (.int z :: st)) : G K n k H pc lv (.int y :: .int x :: st) := fun locs ls hS h => lv_ishl X.1 X.2.1 hd (by rw [hz]; exact (kk locs ls hS h))
theorem g_ishr (X : GX K cc own Ts D base rm nL) {x y z : Int32} (hd : decode cc pc = .ok (.ishr, 1)) (hz : x >>> (y &&& 31) = z) (kk : G K n k H (pc + 1) lv (.int z :: st)) : G K n k H pc lv (.int y :: .int x :: st) := fun locs ls hS h => lv_ishr X.1 X.2.1 hd (by rw [hz]; exact (kk locs ls hS h))
theorem g_idiv (X : GX K cc own Ts D base rm nL) {x y z : Int32} (hd : decode cc pc = .ok (.idiv, 1)) (hne : ¬ y = 0) (hz : x / y = z) (kk : G K n k H (pc + 1) lv (.int z :: st)) : G K n k H pc lv (.int y :: .int x :: st) := fun locs ls hS h => lv_idiv X.1 X.2.1 hd hne (by rw [hz]; exact (kk locs ls hS h))
theorem g_dup (X : GX K cc own Ts D base rm nL) {v : Value} (hd : decode cc pc = .ok (.dup, 1)) (hv : v.category = 1) (kk : G K n k H (pc + 1) lv (v :: v :: st)) : G K n k H pc lv (v :: st) := fun locs ls hS h => lv_dup X.1 X.2.1 hd hv (kk locs ls hS h)
theorem g_dup2 (X : GX K cc own Ts D base rm nL) {v u : Value} (hd : decode cc pc = .ok (.dup2, 1)) (hv : v.category = 1) (hu : u.category = 1) (kk : G K n k H (pc + 1) lv (v :: u :: v :: u :: st)) : G K n k H pc lv (v :: u :: st) := fun locs ls hS h => lv_dup2_11 X.1 X.2.1 hd hv hu (kk locs ls hS h)
theorem g_pop (X : GX K cc own Ts D base rm nL) {v : Value} (hd : decode cc pc = .ok (.pop, 1)) (hv : v.category = 1) (kk : G K n k H (pc + 1) lv (st)) : G K n k H pc lv (v :: st) := fun locs ls hS h => lv_pop X.1 X.2.1 hd hv (kk locs ls hS h)
theorem g_null (X : GX K cc own Ts D base rm nL) (hd : decode cc pc = .ok (.aconst_null, 1)) (kk : G K n k H (pc + 1) lv (.null :: st)) : G K n k H pc lv (st) := fun locs ls hS h => lv_null X.1 X.2.1 hd (kk locs ls hS h)
theorem g_lushr (X : GX K cc own Ts D base rm nL) {x v : Int64} {y : Int32} (hd : decode cc pc = .ok (.lushr, 1)) (hv : (x.toUInt64 >>> (y.toInt64.toUInt64 &&& Int64.toUInt64 63)).toInt64 = v) (kk : G K n k H (pc + 1) lv (.long v :: st)) : G K n k H pc lv (.int y :: .long x :: st) := fun locs ls hS h => lv_lushr X.1 X.2.1 hd hv (kk locs ls hS h)
theorem g_lshr (X : GX K cc own Ts D base rm nL) {x v : Int64} {y : Int32} (hd : decode cc pc = .ok (.lshr, 1)) (hv : x >>> (y.toInt64 &&& 63) = v) (kk : G K n k H (pc + 1) lv (.long v :: st)) : G K n k H pc lv (.int y :: .long x :: st) := fun locs ls hS h => lv_lshr X.1 X.2.1 hd hv (kk locs ls hS h)
theorem g_lshl (X : GX K cc own Ts D base rm nL) {x v : Int64} {y : Int32} (hd : decode cc pc = .ok (.lshl, 1)) (hv : x <<< (y.toInt64 &&& 63) = v) (kk : G K n k H (pc + 1) lv (.long v :: st)) : G K n k H pc lv (.int y :: .long x :: st) := fun locs ls hS h => lv_lshl X.1 X.2.1 hd hv (kk locs ls hS h)
theorem g_land (X : GX K cc own Ts D base rm nL) {x y z : Int64} (hd : decode cc pc = .ok (.land, 1)) (hz : x &&& y = z) (kk : G K n k H (pc + 1) lv (.long z :: st)) : G K n k H pc lv (.long y :: .long x :: st) := fun locs ls hS h => lv_land X.1 X.2.1 hd (by rw [hz]; exact (kk locs ls hS h))
theorem g_lor (X : GX K cc own Ts D base rm nL) {x y z : Int64} (hd : decode cc pc = .ok (.lor, 1)) (hz : x ||| y = z) (kk : G K n k H (pc + 1) lv (.long z :: st)) : G K n k H pc lv (.long y :: .long x :: st) := fun locs ls hS h => lv_lor X.1 X.2.1 hd (by rw [hz]; exact (kk locs ls hS h))
theorem g_l2i (X : GX K cc own Ts D base rm nL) {x : Int64} {v : Int32} (hd : decode cc pc = .ok (.l2i, 1)) (hv : x.toInt32 = v) (kk : G K n k H (pc + 1) lv (.int v :: st)) : G K n k H pc lv (.long x :: st) := fun locs ls hS h => lv_l2i X.1 X.2.1 hd hv (kk locs ls hS h)
theorem g_i2l (X : GX K cc own Ts D base rm nL) {x : Int32} {v : Int64} (hd : decode cc pc = .ok (.i2l, 1)) (hv : x.toInt64 = v) (kk : G K n k H (pc + 1) lv (.long v :: st)) : G K n k H pc lv (.int x :: st) := fun locs ls hS h => lv_i2l X.1 X.2.1 hd hv (kk locs ls hS h)
theorem g_lconst (X : GX K cc own Ts D base rm nL) {j : Fin 2} {v : Int64} (hd : decode cc pc = .ok (.lconst j, 1)) (hv : Int64.ofNat (j : Nat) = v) (kk : G K n k H (pc + 1) lv (.long v :: st)) : G K n k H pc lv (st) := fun locs ls hS h => lv_lconst X.1 X.2.1 hd hv (kk locs ls hS h)
theorem g_ldc2 (X : GX K cc own Ts D base rm nL) {v : Int64} {index : Nat} (hc : Cond.constantLong own index v ∈ Ts) (hd : decode cc pc = .ok (.ldc2_w index, 3)) (kk : G K n k H (pc + 3) lv (.long v :: st)) : G K n k H pc lv (st) := fun locs ls hS h => lv_ldc2 X.1 X.2.1 X.2.2.2.1 (X.2.2.2.2.1 _ hc) hd (kk locs ls hS h)
theorem g_ldc (X : GX K cc own Ts D base rm nL) {v : Int32} {index : Nat} (hc : Cond.constant own index v ∈ Ts) (hd : decode cc pc = .ok (.ldc index, 2)) (kk : G K n k H (pc + 2) lv (.int v :: st)) : G K n k H pc lv (st) := fun locs ls hS h => lv_ldc X.1 X.2.1 X.2.2.2.1 (X.2.2.2.2.1 _ hc) hd (kk locs ls hS h)
theorem g_goto (X : GX K cc own Ts D base rm nL) {off : Int} (tgt : Nat) (hd : decode cc pc = .ok (.goto off, 3)) (ht : (pc : Int) + off = (tgt : Int)) (kk : G K n k H tgt lv st) : G K n k H pc lv st := fun locs ls hS h => lv_goto X.1 X.2.1 hd ht (kk locs ls hS h)
theorem g_icmp_eq (X : GX K cc own Ts D base rm nL) {a b : Int} {off : Int} (tgt : Nat) (hd : decode cc pc = .ok (.if_icmp .eq off, 3)) (ht : (pc : Int) + off = (tgt : Int)) (ha : rg a) (hb : rg b) (kt : a = b → G K n k H tgt lv st) (kf : ¬ a = b → G K n k H (pc + 3) lv st) : G K n k H pc lv (.int (J b) :: .int (J a) :: st) := fun locs ls hS h => lv_icmp_eq X.1 X.2.1 hd ht (fun q => kt ((J_inj ha hb).mp q) locs ls hS h) (fun q => kf (fun e => q ((J_inj ha hb).mpr e)) locs ls hS h)
theorem g_if_eq (X : GX K cc own Ts D base rm nL) {a : Int} {off : Int} (tgt : Nat) (hd : decode cc pc = .ok (.ifCond .eq off, 3)) (ht : (pc : Int) + off = (tgt : Int)) (ha : rg a) (kt : a = 0 → G K n k H tgt lv st) (kf : ¬ a = 0 → G K n k H (pc + 3) lv st) : G K n k H pc lv (.int (J a) :: st) := fun locs ls hS h => lv_if_eq X.1 X.2.1 hd ht (fun q => kt ((J_inj (b := 0) ha ⟨by decide, by decide⟩).mp q) locs ls hS h) (fun q => kf (fun e => q ((J_inj (b := 0) ha ⟨by decide, by decide⟩).mpr e)) locs ls hS h)
theorem g_icmp_ne (X : GX K cc own Ts D base rm nL) {a b : Int} {off : Int} (tgt : Nat) (hd : decode cc pc = .ok (.if_icmp .ne off, 3)) (ht : (pc : Int) + off = (tgt : Int)) (ha : rg a) (hb : rg b) (kt : ¬ a = b → G K n k H tgt lv st) (kf : a = b → G K n k H (pc + 3) lv st) : G K n k H pc lv (.int (J b) :: .int (J a) :: st) := fun locs ls hS h => lv_icmp_ne X.1 X.2.1 hd ht (fun q => kt (fun e => q ((J_inj ha hb).mpr e)) locs ls hS h) (fun q => kf ((J_inj ha hb).mp q) locs ls hS h)
theorem g_if_ne (X : GX K cc own Ts D base rm nL) {a : Int} {off : Int} (tgt : Nat) (hd : decode cc pc = .ok (.ifCond .ne off, 3)) (ht : (pc : Int) + off = (tgt : Int)) (ha : rg a) (kt : ¬ a = 0 → G K n k H tgt lv st) (kf : a = 0 → G K n k H (pc + 3) lv st) : G K n k H pc lv (.int (J a) :: st) := fun locs ls hS h => lv_if_ne X.1 X.2.1 hd ht (fun q => kt (fun e => q ((J_inj ha ⟨by decide, by decide⟩).mpr e)) locs ls hS h) (fun q => kf ((J_inj (b := 0) ha ⟨by decide, by decide⟩).mp q) locs ls hS h)
theorem g_icmp_lt (X : GX K cc own Ts D base rm nL) {a b : Int} {off : Int} (tgt : Nat) (hd : decode cc pc = .ok (.if_icmp .lt off, 3)) (ht : (pc : Int) + off = (tgt : Int)) (ha : rg a) (hb : rg b) (kt : a < b → G K n k H tgt lv st) (kf : ¬ a < b → G K n k H (pc + 3) lv st) : G K n k H pc lv (.int (J b) :: .int (J a) :: st) := fun locs ls hS h => lv_icmp_lt X.1 X.2.1 hd ht (fun q => kt ((J_lt ha hb).mp q) locs ls hS h) (fun q => kf (fun e => q ((J_lt ha hb).mpr e)) locs ls hS h)
theorem g_if_lt (X : GX K cc own Ts D base rm nL) {a : Int} {off : Int} (tgt : Nat) (hd : decode cc pc = .ok (.ifCond .lt off, 3)) (ht : (pc : Int) + off = (tgt : Int)) (ha : rg a) (kt : a < 0 → G K n k H tgt lv st) (kf : ¬ a < 0 → G K n k H (pc + 3) lv st) : G K n k H pc lv (.int (J a) :: st) := fun locs ls hS h => lv_if_lt X.1 X.2.1 hd ht (fun q => kt ((J_lt (b := 0) ha ⟨by decide, by decide⟩).mp q) locs ls hS h) (fun q => kf (fun e => q ((J_lt (b := 0) ha ⟨by decide, by decide⟩).mpr e)) locs ls hS h)
theorem g_icmp_ge (X : GX K cc own Ts D base rm nL) {a b : Int} {off : Int} (tgt : Nat) (hd : decode cc pc = .ok (.if_icmp .ge off, 3)) (ht : (pc : Int) + off = (tgt : Int)) (ha : rg a) (hb : rg b) (kt : b ≤ a → G K n k H tgt lv st) (kf : ¬ b ≤ a → G K n k H (pc + 3) lv st) : G K n k H pc lv (.int (J b) :: .int (J a) :: st) := fun locs ls hS h => lv_icmp_ge X.1 X.2.1 hd ht (fun q => kt ((J_le hb ha).mp q) locs ls hS h) (fun q => kf (fun e => q ((J_le hb ha).mpr e)) locs ls hS h)
theorem g_if_ge (X : GX K cc own Ts D base rm nL) {a : Int} {off : Int} (tgt : Nat) (hd : decode cc pc = .ok (.ifCond .ge off, 3)) (ht : (pc : Int) + off = (tgt : Int)) (ha : rg a) (kt : 0 ≤ a → G K n k H tgt lv st) (kf : ¬ 0 ≤ a → G K n k H (pc + 3) lv st) : G K n k H pc lv (.int (J a) :: st) := fun locs ls hS h => lv_if_ge X.1 X.2.1 hd ht (fun q => kt ((J_le (a := 0) ⟨by decide, by decide⟩ ha).mp q) locs ls hS h) (fun q => kf (fun e => q ((J_le (a := 0) ⟨by decide, by decide⟩ ha).mpr e)) locs ls hS h)
theorem g_icmp_gt (X : GX K cc own Ts D base rm nL) {a b : Int} {off : Int} (tgt : Nat) (hd : decode cc pc = .ok (.if_icmp .gt off, 3)) (ht : (pc : Int) + off = (tgt : Int)) (ha : rg a) (hb : rg b) (kt : b < a → G K n k H tgt lv st) (kf : ¬ b < a → G K n k H (pc + 3) lv st) : G K n k H pc lv (.int (J b) :: .int (J a) :: st) := fun locs ls hS h => lv_icmp_gt X.1 X.2.1 hd ht (fun q => kt ((J_lt hb ha).mp q) locs ls hS h) (fun q => kf (fun e => q ((J_lt hb ha).mpr e)) locs ls hS h)
theorem g_if_gt (X : GX K cc own Ts D base rm nL) {a : Int} {off : Int} (tgt : Nat) (hd : decode cc pc = .ok (.ifCond .gt off, 3)) (ht : (pc : Int) + off = (tgt : Int)) (ha : rg a) (kt : 0 < a → G K n k H tgt lv st) (kf : ¬ 0 < a → G K n k H (pc + 3) lv st) : G K n k H pc lv (.int (J a) :: st) := fun locs ls hS h => lv_if_gt X.1 X.2.1 hd ht (fun q => kt ((J_lt (a := 0) ⟨by decide, by decide⟩ ha).mp q) locs ls hS h) (fun q => kf (fun e => q ((J_lt (a := 0) ⟨by decide, by decide⟩ ha).mpr e)) locs ls hS h)
theorem g_icmp_le (X : GX K cc own Ts D base rm nL) {a b : Int} {off : Int} (tgt : Nat) (hd : decode cc pc = .ok (.if_icmp .le off, 3)) (ht : (pc : Int) + off = (tgt : Int)) (ha : rg a) (hb : rg b) (kt : a ≤ b → G K n k H tgt lv st) (kf : ¬ a ≤ b → G K n k H (pc + 3) lv st) : G K n k H pc lv (.int (J b) :: .int (J a) :: st) := fun locs ls hS h => lv_icmp_le X.1 X.2.1 hd ht (fun q => kt ((J_le ha hb).mp q) locs ls hS h) (fun q => kf (fun e => q ((J_le ha hb).mpr e)) locs ls hS h)
theorem g_if_le (X : GX K cc own Ts D base rm nL) {a : Int} {off : Int} (tgt : Nat) (hd : decode cc pc = .ok (.ifCond .le off, 3)) (ht : (pc : Int) + off = (tgt : Int)) (ha : rg a) (kt : a ≤ 0 → G K n k H tgt lv st) (kf : ¬ a ≤ 0 → G K n k H (pc + 3) lv st) : G K n k H pc lv (.int (J a) :: st) := fun locs ls hS h => lv_if_le X.1 X.2.1 hd ht (fun q => kt ((J_le (b := 0) ha ⟨by decide, by decide⟩).mp q) locs ls hS h) (fun q => kf (fun e => q ((J_le (b := 0) ha ⟨by decide, by decide⟩).mpr e)) locs ls hS h)
theorem g_ifnull (X : GX K cc own Ts D base rm nL) {off : Int} {x : Nat} (hd : decode cc pc = .ok (.ifnull off, 3)) (kk : G K n k H (pc + 3) lv st) : G K n k H pc lv (.ref x :: st) := fun locs ls hS h => lv_ifnull X.1 X.2.1 hd (kk locs ls hS h)
theorem g_ifnonnull (X : GX K cc own Ts D base rm nL) {off : Int} (tgt : Nat) {x : Nat} (hd : decode cc pc = .ok (.ifnonnull off, 3)) (ht : (pc : Int) + off = (tgt : Int)) (kk : G K n k H tgt lv st) : G K n k H pc lv (.ref x :: st) := fun locs ls hS h => lv_ifnonnull X.1 X.2.1 hd ht (kk locs ls hS h)
theorem g_ifnullN (X : GX K cc own Ts D base rm nL) {off : Int} (tgt : Nat) (hd : decode cc pc = .ok (.ifnull off, 3)) (ht : (pc : Int) + off = (tgt : Int)) (kk : G K n k H tgt lv st) : G K n k H pc lv (.null :: st) := fun locs ls hS h => lv_ifnullN X.1 X.2.1 hd ht (kk locs ls hS h)
theorem g_ifnonnullN (X : GX K cc own Ts D base rm nL) {off : Int} (hd : decode cc pc = .ok (.ifnonnull off, 3)) (kk : G K n k H (pc + 3) lv st) : G K n k H pc lv (.null :: st) := fun locs ls hS h => lv_ifnonnullN X.1 X.2.1 hd (kk locs ls hS h)
theorem g_tableIn (X : GX K cc own Ts D base rm nL) {dflt lo hi off : Int} {offs : Array Int} {len : Nat} {a : Int} (tgt : Nat) (hd : decode cc pc = .ok (.tableswitch dflt lo hi offs, len)) (ha : rg a) (h1 : ¬ a < lo) (h2 : ¬ hi < a) (ho : offs[(a - lo).toNat]? = some off) (ht : (pc : Int) + off = (tgt : Int)) (kk : G K n k H tgt lv st) : G K n k H pc lv (.int (J a) :: st) := fun locs ls hS h => lv_tableIn X.1 X.2.1 hd (by rw [J_toInt ha]; exact h1) (by rw [J_toInt ha]; exact h2) (by rw [J_toInt ha]; exact ho) ht (kk locs ls hS h)
theorem g_tableOut (X : GX K cc own Ts D base rm nL) {dflt lo hi : Int} {offs : Array Int} {len : Nat} {a : Int} (tgt : Nat) (hd : decode cc pc = .ok (.tableswitch dflt lo hi offs, len)) (ha : rg a) (h1 : a < lo ∨ hi < a) (ht : (pc : Int) + dflt = (tgt : Int)) (kk : G K n k H tgt lv st) : G K n k H pc lv (.int (J a) :: st) := fun locs ls hS h => lv_tableOut X.1 X.2.1 hd (by rw [J_toInt ha]; exact h1) ht (kk locs ls hS h)
theorem g_lookup (X : GX K cc own Ts D base rm nL) {dflt off : Int} {ps : Array (Int × Int)} {len : Nat} {a : Int} (tgt : Nat) (hd : decode cc pc = .ok (.lookupswitch dflt ps, len)) (ha : rg a) (hp : (ps.toList.zip (ps.toList.drop 1)).all (fun (a, next) => a.1 < next.1) = true) (ho : Op.lookupswitch.offset ps.toList dflt a = off) (ht : (pc : Int) + off = (tgt : Int)) (kk : G K n k H tgt lv st) : G K n k H pc lv (.int (J a) :: st) := fun locs ls hS h => lv_lookup X.1 X.2.1 hd hp (by rw [J_toInt ha]; exact ho) ht (kk locs ls hS h)
/-- what the tables say of a field that is read or written: its class ci, its place f, by the pool's index -/
def zF (own : String) (Ts : List Cond) (ci f index : Nat) : Prop := ∃ (C : String) (T : u_T) (N : Nat), vwCl[ci]? = some (C, T, N) ∧ (∀ w ∈ u_ws C T N, w ∈ Ts) ∧ f < N ∧ Cond.fieldLink own index (T f).1 (T f).2.1 (T f).2.2.1 ∈ Ts
/-- and of one that is written -/
def zW (own : String) (Ts : List Cond) (ci f index : Nat) (fin : Bool) (ty : FieldType) : Prop := ∃ (C : String) (T : u_T) (N : Nat) (tys : Nat → FieldType), vwCl[ci]? = some (C, T, N) ∧ (∀ w ∈ u_ws C T N, w ∈ Ts) ∧ f < N ∧ Cond.fieldLink own index (T f).1 (T f).2.1 (T f).2.2.1 ∈ Ts ∧ (∀ j, j < N → parseFieldDescriptor (T j).2.2.1 = some (tys j)) ∧ (∀ a, a < N → ∀ b, b < N → a ≠ b → (T a).2.1 ≠ (T b).2.1) ∧ (T f).2.2.2 = fin ∧ tys f = ty ∧ (T f).1 = C
theorem g_getf (X : GX K cc own Ts D base rm nL) {ci f index q : Nat} {fs : List Value} {v : Value} (hF : zF own Ts ci f index) (hO : Ob D q ci fs H) (hv : fs[f]? = some v) (hd : decode cc pc = .ok (.getfield index, 3)) (kk : G K n k H (pc + 3) lv (v :: st)) : G K n k H pc lv (.ref q :: st) := by
  intro locs ls hS h
  obtain ⟨C, T, N, h1, h2, h3, h4⟩ := hF
  have hP : va_P (D.1, D.2.1) vwCl [(q, .inr (ci, fs))] H := fun j x hx => by
    match j, hx with
    | 0, hx => cases hx; exact hO
    | j + 1, hx => simp at hx
  exact va_get X.1 X.2.1 X.2.2.2.2.1 h2 X.2.2.2.1 X.2.2.2.2.2.1.1 hP 0 rfl h1 f h3 (X.2.2.2.2.1 _ h4) (fun _ h9 => h9) hv hd (kk locs ls hS h)
theorem g_putf (X : GX K cc own Ts D base rm nL) {ci f index q : Nat} {fs : List Value} {v : Value} {ty : FieldType} (hF : zW own Ts ci f index false ty) (hO : Ob D q ci fs H) (hq : base ≤ q) (hl0 : Nat.ble (f + 1) fs.length = true) (hn : narrow ty v = v) (hfit : fits ty v = true) (hd : decode cc pc = .ok (.putfield index, 3)) (kk : ∀ H1 : Heap, Ob D q ci (fs.set f v) H1 → Fr (Iv q (q + 1)) 0 H H1 → G K n k H1 (pc + 3) lv st) : G K n k H pc lv (v :: .ref q :: st) := by
  intro locs ls hS h
  have hl : f < fs.length := Nat.le_of_ble_eq_true hl0
  obtain ⟨C, T, N, tys, h1, h2, h3, h4, h5, h6, h7, rfl, h8⟩ := hF
  have hK := X.2.2.2.2.2.1.1
  have hap := va_apart (own := own) X.2.2.2.2.1 h2 tys h5 h6 hK h1
  obtain ⟨r, e1, cell, q1, q2, q3, q4⟩ := hO
  have hr : r = (C, T, N) := Option.some.inj (e1.symm.trans h1)
  subst hr
  obtain ⟨hSl, hfc, kC, hkC, hkind⟩ := hK.1 ci _ h1
  obtain ⟨cf, kf, fi, fd, hi, hsl⟩ := hSl f h3
  have hlay := X.2.2.2.2.1 _ (h2 _ (u_in_lay h3))
  unfold u_lay at hlay
  rw [if_neg (by rw [h7]; decide)] at hlay
  have hst := (u_facts hfc hkC (u_lays X.2.2.2.2.1 h2 h3) hi).1
  have h6 := u_store hfc hkC hkind hlay hi (h5 f h3) hn hfit
  refine W.putK X.1 X.2.1 (f := fd) ⟨X.2.2.2.1, X.2.2.2.2.1 _ h4, ⟨_, _, _, hi⟩, hst⟩ (by rw [q2]; exact h6) q1 q3 (by rw [hsl]; exact k2_hasslot (q4 f h3)) rfl rfl hd fun H' e1 e2 e3 => ?_
  rw [hsl] at e1 ⊢
  exact kk H' ⟨_, h1, t_OB.to (V := updV (vp_V fs) f v) ⟨_, e1, q2, q3, t_set q4 hap h3 v⟩ (fun j _ => vp_updV_set hl v j)⟩ (Up1.fr ⟨e2, e3⟩) _ ls (hS.put e2 e3 (by show zba K ≤ q; rw [X.2.2.2.2.2.2.2.1]; exact hq)) h
theorem g_putF (X : GX K cc own Ts D base rm nL) {ci f index q : Nat} {fs : List Value} {v : Value} {ty : FieldType} (hF : zW own Ts ci f index true ty) (hin : (zme K).name = "<init>") (hown : (vwCl[ci]?).map (fun x => x.1) = some own) (hO : Ob D q ci fs H) (hq : base ≤ q) (hl0 : Nat.ble (f + 1) fs.length = true) (hn : narrow ty v = v) (hfit : fits ty v = true) (hd : decode cc pc = .ok (.putfield index, 3)) (kk : ∀ H1 : Heap, Ob D q ci (fs.set f v) H1 → Fr (Iv q (q + 1)) 0 H H1 → G K n k H1 (pc + 3) lv st) : G K n k H pc lv (v :: .ref q :: st) := by
  intro locs ls hS h
  have hl : f < fs.length := Nat.le_of_ble_eq_true hl0
  obtain ⟨C, T, N, tys, h1, h2, h3, h4, h5, h6, h7, rfl, h8⟩ := hF
  have hC : C = own := by rw [h1] at hown; exact Option.some.inj hown
  have hK := X.2.2.2.2.2.1.1
  have hap := va_apart (own := own) X.2.2.2.2.1 h2 tys h5 h6 hK h1
  obtain ⟨r, e1, cell, q1, q2, q3, q4⟩ := hO
  have hr : r = (C, T, N) := Option.some.inj (e1.symm.trans h1)
  subst hr
  obtain ⟨hSl, hfc, kC, hkC, hkind⟩ := hK.1 ci _ h1
  obtain ⟨cf, kf, fi, fd, hi, hsl⟩ := hSl f h3
  have hlay := X.2.2.2.2.1 _ (h2 _ (u_in_lay h3))
  unfold u_lay at hlay
  rw [if_pos h7] at hlay
  have hst := (u_facts hfc hkC (u_lays X.2.2.2.2.1 h2 h3) hi).1
  have hcf : (zm K).cls = cf := by
    obtain ⟨_, _, c', _, _, _, -, -, hf', -, -, -, hown2, -⟩ := Cond.laysFinal_spec hlay
    have e1 : c' = cf := by have := hi.symm.trans hf'; simp at this; exact this.1.symm
    rw [h8, hC] at hown2
    rw [← e1]; exact Option.some.inj (X.2.2.2.1.symm.trans hown2)
  have h6 := u_fits hfc hkC hkind (Or.inr hlay) hi (h5 f h3) hn hfit
  refine W.putFinK X.1 X.2.1 X.2.2.2.1 (X.2.2.2.2.1 _ h4) hi hst hcf hin (by rw [q2]; exact h6) q1 q3 (by rw [hsl]; exact k2_hasslot (q4 f h3)) rfl rfl hd fun H' e1 e2 e3 => ?_
  rw [hsl] at e1 ⊢
  exact kk H' ⟨_, h1, t_OB.to (V := updV (vp_V fs) f v) ⟨_, e1, q2, q3, t_set q4 hap h3 v⟩ (fun j _ => vp_updV_set hl v j)⟩ (Up1.fr ⟨e2, e3⟩) _ ls (hS.put e2 e3 (by show zba K ≤ q; rw [X.2.2.2.2.2.2.2.1]; exact hq)) h
theorem zsing {D : va_G} {a : Nat} {e : va_E} (hO : va_at D vwCl (a, e) H) : va_P D vwCl [(a, e)] H := fun j x hx => by
  match j, hx with
  | 0, hx => cases hx; exact hO
  | j + 1, hx => simp at hx
theorem g_iaload (X : GX K cc own Ts D base rm nL) {q N : Nat} {f : Int → Int} {z : Int} (hA : Ia D q N f H) (h0 : 0 ≤ z) (h1 : z < N) (hN : N < 2147483648) (hd : decode cc pc = .ok (.iaload, 1)) (kk : G K n k H (pc + 1) lv (.int (J (f z)) :: st)) : G K n k H pc lv (.int (J z) :: .ref q :: st) := by
  intro locs ls hS h
  refine va_iald X.1 X.2.1 X.2.2.2.2.2.1.1 (zsing hA) 0 0 rfl rfl (J_in h0 h1 hN) hd ?_
  rw [J_cl ⟨by omega, by omega⟩, Int.toNat_of_nonneg h0]
  exact (kk locs ls hS h)
theorem g_alen (X : GX K cc own Ts D base rm nL) {q N : Nat} {f : Int → Int} (hA : Ia D q N f H) (hd : decode cc pc = .ok (.arraylength, 1)) (kk : G K n k H (pc + 1) lv (.int (J (N : Int)) :: st)) : G K n k H pc lv (.ref q :: st) := by
  intro locs ls hS h
  exact va_alen X.1 X.2.1 X.2.2.2.2.2.1.1 (zsing hA) 0 0 rfl rfl (J_nat N) hd (kk locs ls hS h)
theorem g_alenR (X : GX K cc own Ts D base rm nL) {q N t : Nat} {f : Int → Option Nat} (hA : Ra D q t N f H) (ht : t = 2 ∨ t = 3) (hd : decode cc pc = .ok (.arraylength, 1)) (kk : G K n k H (pc + 1) lv (.int (J (N : Int)) :: st)) : G K n k H pc lv (.ref q :: st) := by
  intro locs ls hS h
  rcases ht with rfl | rfl
  · exact va_alen X.1 X.2.1 X.2.2.2.2.2.1.1 (zsing hA) 0 2 rfl rfl (J_nat N) hd (kk locs ls hS h)
  · exact va_alen X.1 X.2.1 X.2.2.2.2.2.1.1 (zsing hA) 0 3 rfl rfl (J_nat N) hd (kk locs ls hS h)
theorem g_aaload (X : GX K cc own Ts D base rm nL) {q N t : Nat} {f : Int → Option Nat} {z : Int} {v : Value} (hA : Ra D q t N f H) (ht : t = 2 ∨ t = 3) (h0 : 0 ≤ z) (h1 : z < N) (hN : N < 2147483648) (hv : va_rf (f z) = v) (hd : decode cc pc = .ok (.aaload, 1)) (kk : G K n k H (pc + 1) lv (v :: st)) : G K n k H pc lv (.int (J z) :: .ref q :: st) := by
  intro locs ls hS h
  subst hv
  rcases ht with rfl | rfl
  · refine va_aldq X.1 X.2.1 X.2.2.2.2.2.1.1 (zsing hA) 0 2 rfl rfl (J_in h0 h1 hN) hd ?_
    rw [J_cl ⟨by omega, by omega⟩, Int.toNat_of_nonneg h0]
    exact (kk locs ls hS h)
  · refine va_aldq X.1 X.2.1 X.2.2.2.2.2.1.1 (zsing hA) 0 3 rfl rfl (J_in h0 h1 hN) hd ?_
    rw [J_cl ⟨by omega, by omega⟩, Int.toNat_of_nonneg h0]
    exact (kk locs ls hS h)
/-- a function changed at one place -/
def up {α : Type} (f : Int → α) (z : Int) (v : α) : Int → α := fun j => if j = z then v else f j
theorem g_iastore (X : GX K cc own Ts D base rm nL) {q N : Nat} {f : Int → Int} {z x : Int} (hA : Ia D q N f H) (hq : base ≤ q) (h0 : 0 ≤ z) (h1 : z < N) (hN : N < 2147483648) (hd : decode cc pc = .ok (.iastore, 1)) (kk : ∀ H1 : Heap, Ia D q N (up f z x) H1 → Fr (Iv q (q + 1)) 0 H H1 → G K n k H1 (pc + 1) lv st) : G K n k H pc lv (.int (J x) :: .int (J z) :: .ref q :: st) := by
  intro locs ls hS h
  have hin := J_in h0 h1 hN
  refine W.iast X.1 X.2.1 hA ((X.2.2.2.2.2.1.1.2 0 _ rfl).1 N (fun j => .int (J (f j)))) (fun q => by cases q) (by show ¬ (J z < 0 ∨ (arrV _ _ _).slots.size ≤ _); rw [arrV_size]; exact hin) rfl rfl hd fun H1 e z1 oq => ?_
  refine kk H1 ?_ (Up1.fr ⟨z1, oq⟩) _ ls (hS.put z1 oq (by show zba K ≤ q; rw [X.2.2.2.2.2.2.2.1]; exact hq)) h
  show H1[q]? = some (vp_cell _ _)
  rw [e, J_cl ⟨by omega, by omega⟩]
  dsimp only
  rw [vp_cell_i, vp_cell_i, arrV_store]
  congr 2
  funext j
  by_cases hj : j = z.toNat
  · subst hj
    have e2 : ((z.toNat : Nat) : Int) = z := Int.toNat_of_nonneg h0
    simp [updV, up, e2]
  · have e2 : ¬ ((j : Nat) : Int) = z := by omega
    simp [updV, up, hj, e2]
theorem g_aastore (X : GX K cc own Ts D base rm nL) {q N t ci v : Nat} {f : Int → Option Nat} {fs : List Value} {z : Int} (hA : Ra D q t N f H) (ht : (t = 2 ∧ ci = 2) ∨ (t = 3 ∧ ci = 4)) (hO : Ob D v ci fs H) (hq : base ≤ q) (h0 : 0 ≤ z) (h1 : z < N) (hN : N < 2147483648) (hd : decode cc pc = .ok (.aastore, 1)) (kk : ∀ H1 : Heap, Ra D q t N (up f z (some v)) H1 → Fr (Iv q (q + 1)) 0 H H1 → G K n k H1 (pc + 1) lv st) : G K n k H pc lv (.ref v :: .int (J z) :: .ref q :: st) := by
  intro locs ls hS h
  have hin := J_in h0 h1 hN
  have hK := X.2.2.2.2.2.1.1
  obtain ⟨t0, r, hr1, hr2⟩ : ∃ (t0 : Nat) (r : vw_C), vwCl[ci]? = some r ∧ (zTys D)[t0]? = some (D.2.2 t, .object r.1) := by
    rcases ht with ⟨rfl, rfl⟩ | ⟨rfl, rfl⟩
    · exact ⟨2, _, rfl, rfl⟩
    · exact ⟨3, _, rfl, rfl⟩
  obtain ⟨r', hr', cellV, g1, g2, g3, -⟩ := hO
  have hcls := (hK.1 ci r hr1).2
  obtain ⟨kA, comp, k1, k2, k3, -⟩ := (hK.2 t0 _ hr2).2
  have hcomp : comp = D.1 ci := Option.some.inj (k3.symm.trans hcls.1)
  subst hcomp
  obtain ⟨kC, hkC, -⟩ := id hcls.2
  have h0' : ¬ J z < 0 := fun q => hin (Or.inl q)
  have hlt : (J z).toNatClampNeg < N := Nat.not_le.mp fun q => hin (Or.inr q)
  refine W.aast X.1 X.2.1 hA (fun q h => by cases h) (fun h => by cases h) k1 k2 rfl hkC ⟨h0', by show _ < (arrV _ _ _).slots.size; rw [arrV_size]; exact hlt⟩ g1 (fun q h => by rw [g3] at h; cases h) (by rw [g2]; exact hkC) (by rw [g2]; exact va_assign hcls) rfl rfl hd fun H1 e z1 oq => ?_
  refine kk H1 ?_ (Up1.fr ⟨z1, oq⟩) _ ls (hS.put z1 oq (by show zba K ≤ q; rw [X.2.2.2.2.2.2.2.1]; exact hq)) h
  show H1[q]? = some (vp_cell _ _)
  rw [e, J_cl ⟨by omega, by omega⟩]
  dsimp only
  rw [vp_cell_q, vp_cell_q, arrV_store]
  congr 2
  funext j
  by_cases hj : j = z.toNat
  · subst hj
    have e2 : ((z.toNat : Nat) : Int) = z := Int.toNat_of_nonneg h0
    simp [updV, up, e2, va_rf]
  · have e2 : ¬ ((j : Nat) : Int) = z := by omega
    simp [updV, up, hj, e2]
theorem g_ireturn (X : GX K cc own Ts D base rm nL) {mc ms : Nat} {Post : Heap → Option Value → Heap → Prop} (R : GR K (some .int) base mc ms Post) {x : Int32} (hp : Post (zs K).heap (some (.int x)) H) (hd : decode cc pc = .ok (.ireturn, 1)) : G K mc ms H pc lv [.int x] := by
  intro locs ls hS h
  rw [R.2]
  exact W.iret X.1 X.2.1 R.1 (fun t ht _ => ⟨⟨_, rfl, by rw [ht]; exact hp⟩, by have := hS.F ht; rwa [X.2.2.2.2.2.2.2.1] at this⟩) (fun q hq => by have := hS.2.2 q hq; rwa [X.2.2.2.2.2.2.2.1] at this) hd X.2.2.2.2.2.2.2.2.2.2
theorem g_zreturn (X : GX K cc own Ts D base rm nL) {mc ms : Nat} {Post : Heap → Option Value → Heap → Prop} (R : GR K (some .boolean) base mc ms Post) {x : Int32} (hx : narrow .boolean (.int x) = .int x) (hp : Post (zs K).heap (some (.int x)) H) (hd : decode cc pc = .ok (.ireturn, 1)) : G K mc ms H pc lv [.int x] := by
  intro locs ls hS h
  rw [R.2]
  exact W.zret X.1 X.2.1 R.1 hx (fun t ht _ => ⟨⟨_, rfl, by rw [ht]; exact hp⟩, by have := hS.F ht; rwa [X.2.2.2.2.2.2.2.1] at this⟩) (fun q hq => by have := hS.2.2 q hq; rwa [X.2.2.2.2.2.2.2.1] at this) hd X.2.2.2.2.2.2.2.2.2.2
theorem g_vreturn (X : GX K cc own Ts D base rm nL) {mc ms : Nat} {Post : Heap → Option Value → Heap → Prop} (R : GR K none base mc ms Post) (hp : Post (zs K).heap none H) (hd : decode cc pc = .ok (.return_, 1)) : G K mc ms H pc lv [] := by
  intro locs ls hS h
  rw [R.2]
  exact W.vret X.1 X.2.1 R.1 (fun t ht _ => ⟨⟨_, rfl, by rw [ht]; exact hp⟩, by have := hS.F ht; rwa [X.2.2.2.2.2.2.2.1] at this⟩) (fun q hq => by have := hS.2.2 q hq; rwa [X.2.2.2.2.2.2.2.1] at this) hd X.2.2.2.2.2.2.2.2.2.2
theorem g_areturn (X : GX K cc own Ts D base rm nL) {mc ms : Nat} {Post : Heap → Option Value → Heap → Prop} {C : String} (R : GR K (some (.object C)) base mc ms Post) {v : Value} (hv : v = .null ∨ ∃ a, v = .ref a) (hp : Post (zs K).heap (some v) H) (hd : decode cc pc = .ok (.areturn, 1)) : G K mc ms H pc lv [v] := by
  intro locs ls hS h
  rw [R.2]
  exact W.aret X.1 X.2.1 R.1 (Or.inl ⟨_, rfl⟩) hv (fun t ht _ => ⟨⟨_, rfl, by rw [ht]; exact hp⟩, by have := hS.F ht; rwa [X.2.2.2.2.2.2.2.1] at this⟩) (fun q hq => by have := hS.2.2 q hq; rwa [X.2.2.2.2.2.2.2.1] at this) hd X.2.2.2.2.2.2.2.2.2.2
end

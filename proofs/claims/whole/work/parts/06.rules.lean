section
variable {g : Gl} {F : Fx} {cc : ByteArray} {own : String} {nL d pc : Nat} {lv : List (Nat × Value)} {st : List Value} {I : Ty} {L : TL} {R : TR} {N : TN} {n kr sr : Nat}
theorem v_iconst {a : Int} {v : Int32} (hd : decode cc pc = .ok (.iconst a, 1)) (hv : Int32.ofInt a = v) (k : V g F cc own nL d (pc + 1) lv (.int v :: st) I L R N n kr sr) : V g F cc own nL d pc lv st I L R N n kr sr := by
  intro hF H locs ls kc ks h1 h2 hH hL hl; obtain ⟨p, l, e, Rm, s, m, args, below, meth, c, Q⟩ := F; exact lv_iconst hF.1 hF.2.1 hd hv (k hF H locs ls kc ks h1 h2 hH hL hl)
theorem v_bipush {a : Int} {v : Int32} (hd : decode cc pc = .ok (.bipush a, 2)) (hv : (Int8.ofInt a).toInt32 = v) (k : V g F cc own nL d (pc + 2) lv (.int v :: st) I L R N n kr sr) : V g F cc own nL d pc lv st I L R N n kr sr := by
  intro hF H locs ls kc ks h1 h2 hH hL hl; obtain ⟨p, l, e, Rm, s, m, args, below, meth, c, Q⟩ := F; exact lv_bipush hF.1 hF.2.1 hd hv (k hF H locs ls kc ks h1 h2 hH hL hl)
theorem v_sipush {a : Int} {v : Int32} (hd : decode cc pc = .ok (.sipush a, 3)) (hv : (Int16.ofInt a).toInt32 = v) (k : V g F cc own nL d (pc + 3) lv (.int v :: st) I L R N n kr sr) : V g F cc own nL d pc lv st I L R N n kr sr := by
  intro hF H locs ls kc ks h1 h2 hH hL hl; obtain ⟨p, l, e, Rm, s, m, args, below, meth, c, Q⟩ := F; exact lv_sipush hF.1 hF.2.1 hd hv (k hF H locs ls kc ks h1 h2 hH hL hl)
theorem v_lconst {a : Fin 2} {v : Int64} (hd : decode cc pc = .ok (.lconst a, 1)) (hv : Int64.ofNat (a : Nat) = v) (k : V g F cc own nL d (pc + 1) lv (.long v :: st) I L R N n kr sr) : V g F cc own nL d pc lv st I L R N n kr sr := by
  intro hF H locs ls kc ks h1 h2 hH hL hl; obtain ⟨p, l, e, Rm, s, m, args, below, meth, c, Q⟩ := F; exact lv_lconst hF.1 hF.2.1 hd hv (k hF H locs ls kc ks h1 h2 hH hL hl)
theorem v_ldc {ix : Nat} {v : Int32} (hd : decode cc pc = .ok (.ldc ix, 2)) (hc : Cond.constant own ix v ∈ UW) (k : V g F cc own nL d (pc + 2) lv (.int v :: st) I L R N n kr sr) : V g F cc own nL d pc lv st I L R N n kr sr := by
  intro hF H locs ls kc ks h1 h2 hH hL hl; obtain ⟨p, l, e, Rm, s, m, args, below, meth, c, Q⟩ := F; exact lv_ldc hF.1 hF.2.1 hF.2.2.2.1 (hF.2.2.2.2.1 _ hc) hd (k hF H locs ls kc ks h1 h2 hH hL hl)
theorem v_ldcw {ix : Nat} {v : Int32} (hd : decode cc pc = .ok (.ldc_w ix, 3)) (hc : Cond.constant own ix v ∈ UW) (k : V g F cc own nL d (pc + 3) lv (.int v :: st) I L R N n kr sr) : V g F cc own nL d pc lv st I L R N n kr sr := by
  intro hF H locs ls kc ks h1 h2 hH hL hl; obtain ⟨p, l, e, Rm, s, m, args, below, meth, c, Q⟩ := F; exact lv_ldcw hF.1 hF.2.1 hF.2.2.2.1 (hF.2.2.2.2.1 _ hc) hd (k hF H locs ls kc ks h1 h2 hH hL hl)
theorem v_ldc2 {ix : Nat} {v : Int64} (hd : decode cc pc = .ok (.ldc2_w ix, 3)) (hc : Cond.constantLong own ix v ∈ UW) (k : V g F cc own nL d (pc + 3) lv (.long v :: st) I L R N n kr sr) : V g F cc own nL d pc lv st I L R N n kr sr := by
  intro hF H locs ls kc ks h1 h2 hH hL hl; obtain ⟨p, l, e, Rm, s, m, args, below, meth, c, Q⟩ := F; exact lv_ldc2 hF.1 hF.2.1 hF.2.2.2.1 (hF.2.2.2.2.1 _ hc) hd (k hF H locs ls kc ks h1 h2 hH hL hl)
theorem v_iload_n {j : Fin 4} {i : Nat} {x : Int32} (hd : decode cc pc = .ok (.iload_n j, 1)) (hi : (j : Nat) = i) (q : Nat) (hq : lv[q]? = some (i, .int x)) (k : V g F cc own nL d (pc + 1) lv (.int x :: st) I L R N n kr sr) : V g F cc own nL d pc lv st I L R N n kr sr := by
  intro hF H locs ls kc ks h1 h2 hH hL hl; obtain ⟨p, l, e, Rm, s, m, args, below, meth, c, Q⟩ := F; exact lv_iload_n hF.1 hF.2.1 hd hi (lv_at hl q hq) (k hF H locs ls kc ks h1 h2 hH hL hl)
theorem v_iload {i : Nat} {x : Int32} (hd : decode cc pc = .ok (.iload i, 2)) (q : Nat) (hq : lv[q]? = some (i, .int x)) (k : V g F cc own nL d (pc + 2) lv (.int x :: st) I L R N n kr sr) : V g F cc own nL d pc lv st I L R N n kr sr := by
  intro hF H locs ls kc ks h1 h2 hH hL hl; obtain ⟨p, l, e, Rm, s, m, args, below, meth, c, Q⟩ := F; exact lv_iload hF.1 hF.2.1 hd (lv_at hl q hq) (k hF H locs ls kc ks h1 h2 hH hL hl)
theorem v_lload_n {j : Fin 4} {i : Nat} {x : Int64} (hd : decode cc pc = .ok (.lload_n j, 1)) (hi : (j : Nat) = i) (q : Nat) (hq : lv[q]? = some (i, .long x)) (k : V g F cc own nL d (pc + 1) lv (.long x :: st) I L R N n kr sr) : V g F cc own nL d pc lv st I L R N n kr sr := by
  intro hF H locs ls kc ks h1 h2 hH hL hl; obtain ⟨p, l, e, Rm, s, m, args, below, meth, c, Q⟩ := F; exact lv_lload_n hF.1 hF.2.1 hd hi (lv_at hl q hq) (k hF H locs ls kc ks h1 h2 hH hL hl)
theorem v_lload {i : Nat} {x : Int64} (hd : decode cc pc = .ok (.lload i, 2)) (q : Nat) (hq : lv[q]? = some (i, .long x)) (k : V g F cc own nL d (pc + 2) lv (.long x :: st) I L R N n kr sr) : V g F cc own nL d pc lv st I L R N n kr sr := by
  intro hF H locs ls kc ks h1 h2 hH hL hl; obtain ⟨p, l, e, Rm, s, m, args, below, meth, c, Q⟩ := F; exact lv_lload hF.1 hF.2.1 hd (lv_at hl q hq) (k hF H locs ls kc ks h1 h2 hH hL hl)
theorem v_aload_n {j : Fin 4} {i : Nat} {x : Nat} (hd : decode cc pc = .ok (.aload_n j, 1)) (hi : (j : Nat) = i) (q : Nat) (hq : lv[q]? = some (i, .ref x)) (k : V g F cc own nL d (pc + 1) lv (.ref x :: st) I L R N n kr sr) : V g F cc own nL d pc lv st I L R N n kr sr := by
  intro hF H locs ls kc ks h1 h2 hH hL hl; obtain ⟨p, l, e, Rm, s, m, args, below, meth, c, Q⟩ := F; exact lv_aload_n hF.1 hF.2.1 hd hi (lv_at hl q hq) (k hF H locs ls kc ks h1 h2 hH hL hl)
theorem v_aload {i : Nat} {x : Nat} (hd : decode cc pc = .ok (.aload i, 2)) (q : Nat) (hq : lv[q]? = some (i, .ref x)) (k : V g F cc own nL d (pc + 2) lv (.ref x :: st) I L R N n kr sr) : V g F cc own nL d pc lv st I L R N n kr sr := by
  intro hF H locs ls kc ks h1 h2 hH hL hl; obtain ⟨p, l, e, Rm, s, m, args, below, meth, c, Q⟩ := F; exact lv_aload hF.1 hF.2.1 hd (lv_at hl q hq) (k hF H locs ls kc ks h1 h2 hH hL hl)
theorem v_istore_n {j : Fin 4} {i : Nat} {x : Int32} {lv2 : List (Nat × Value)} (hd : decode cc pc = .ok (.istore_n j, 1)) (hi : (j : Nat) = i) (hn : i < nL) (hv : (i, Value.int x) :: lv.filter (fun q => !(q.1 == i) && !(q.1 + 1 == i && q.2.category == 2)) = lv2) (k : V g F cc own nL d (pc + 1) lv2 st I L R N n kr sr) : V g F cc own nL d pc lv (.int x :: st) I L R N n kr sr := by
  intro hF H locs ls kc ks h1 h2 hH hL hl; obtain ⟨p, l, e, Rm, s, m, args, below, meth, c, Q⟩ := F; exact lv_istore_n hF.1 hF.2.1 hd hi hl hn hv (fun ls2 hl2 => k hF H locs ls2 kc ks h1 h2 hH hL hl2)
theorem v_istore {i : Nat} {x : Int32} {lv2 : List (Nat × Value)} (hd : decode cc pc = .ok (.istore i, 2)) (hn : i < nL) (hv : (i, Value.int x) :: lv.filter (fun q => !(q.1 == i) && !(q.1 + 1 == i && q.2.category == 2)) = lv2) (k : V g F cc own nL d (pc + 2) lv2 st I L R N n kr sr) : V g F cc own nL d pc lv (.int x :: st) I L R N n kr sr := by
  intro hF H locs ls kc ks h1 h2 hH hL hl; obtain ⟨p, l, e, Rm, s, m, args, below, meth, c, Q⟩ := F; exact lv_istore hF.1 hF.2.1 hd hl hn hv (fun ls2 hl2 => k hF H locs ls2 kc ks h1 h2 hH hL hl2)
theorem v_astore_n {j : Fin 4} {i : Nat} {x : Nat} {lv2 : List (Nat × Value)} (hd : decode cc pc = .ok (.astore_n j, 1)) (hi : (j : Nat) = i) (hn : i < nL) (hv : (i, Value.ref x) :: lv.filter (fun q => !(q.1 == i) && !(q.1 + 1 == i && q.2.category == 2)) = lv2) (k : V g F cc own nL d (pc + 1) lv2 st I L R N n kr sr) : V g F cc own nL d pc lv (.ref x :: st) I L R N n kr sr := by
  intro hF H locs ls kc ks h1 h2 hH hL hl; obtain ⟨p, l, e, Rm, s, m, args, below, meth, c, Q⟩ := F; exact lv_astore_n hF.1 hF.2.1 hd hi hl hn hv (fun ls2 hl2 => k hF H locs ls2 kc ks h1 h2 hH hL hl2)
theorem v_astore {i : Nat} {x : Nat} {lv2 : List (Nat × Value)} (hd : decode cc pc = .ok (.astore i, 2)) (hn : i < nL) (hv : (i, Value.ref x) :: lv.filter (fun q => !(q.1 == i) && !(q.1 + 1 == i && q.2.category == 2)) = lv2) (k : V g F cc own nL d (pc + 2) lv2 st I L R N n kr sr) : V g F cc own nL d pc lv (.ref x :: st) I L R N n kr sr := by
  intro hF H locs ls kc ks h1 h2 hH hL hl; obtain ⟨p, l, e, Rm, s, m, args, below, meth, c, Q⟩ := F; exact lv_astore hF.1 hF.2.1 hd hl hn hv (fun ls2 hl2 => k hF H locs ls2 kc ks h1 h2 hH hL hl2)
theorem v_iinc {i q : Nat} {a : Int} {x v : Int32} {lv2 : List (Nat × Value)} (hd : decode cc pc = .ok (.iinc i a, 3)) (q : Nat) (hq : lv[q]? = some (i, .int x)) (hx : x + Int32.ofInt a = v) (hn : i < nL) (hv : (i, Value.int v) :: lv.filter (fun q => !(q.1 == i) && !(q.1 + 1 == i && q.2.category == 2)) = lv2) (k : V g F cc own nL d (pc + 3) lv2 st I L R N n kr sr) : V g F cc own nL d pc lv st I L R N n kr sr := by
  intro hF H locs ls kc ks h1 h2 hH hL hl; obtain ⟨p, l, e, Rm, s, m, args, below, meth, c, Q⟩ := F; exact lv_iinc hF.1 hF.2.1 hd hl hq hx hn hv (fun ls2 hl2 => k hF H locs ls2 kc ks h1 h2 hH hL hl2)
theorem v_sub {lv2 : List (Nat × Value)} (qs : List Nat) (hv : lv_pick lv qs = lv2) (k : V g F cc own nL d pc lv2 st I L R N n kr sr) : V g F cc own nL d pc lv st I L R N n kr sr := by
  intro hF H locs ls kc ks h1 h2 hH hL hl; exact k hF H locs ls kc ks h1 h2 hH hL (lv_sub hl qs hv)
theorem v_iadd {x y : Int32} (hd : decode cc pc = .ok (.iadd, 1)) (k : V g F cc own nL d (pc + 1) lv (.int (x + y) :: st) I L R N n kr sr) : V g F cc own nL d pc lv (.int y :: .int x :: st) I L R N n kr sr := by
  intro hF H locs ls kc ks h1 h2 hH hL hl; obtain ⟨p, l, e, Rm, s, m, args, below, meth, c, Q⟩ := F; exact lv_iadd hF.1 hF.2.1 hd (k hF H locs ls kc ks h1 h2 hH hL hl)
theorem v_isub {x y : Int32} (hd : decode cc pc = .ok (.isub, 1)) (k : V g F cc own nL d (pc + 1) lv (.int (x - y) :: st) I L R N n kr sr) : V g F cc own nL d pc lv (.int y :: .int x :: st) I L R N n kr sr := by
  intro hF H locs ls kc ks h1 h2 hH hL hl; obtain ⟨p, l, e, Rm, s, m, args, below, meth, c, Q⟩ := F; exact lv_isub hF.1 hF.2.1 hd (k hF H locs ls kc ks h1 h2 hH hL hl)
theorem v_imul {x y : Int32} (hd : decode cc pc = .ok (.imul, 1)) (k : V g F cc own nL d (pc + 1) lv (.int (x * y) :: st) I L R N n kr sr) : V g F cc own nL d pc lv (.int y :: .int x :: st) I L R N n kr sr := by
  intro hF H locs ls kc ks h1 h2 hH hL hl; obtain ⟨p, l, e, Rm, s, m, args, below, meth, c, Q⟩ := F; exact lv_imul hF.1 hF.2.1 hd (k hF H locs ls kc ks h1 h2 hH hL hl)
theorem v_iand {x y : Int32} (hd : decode cc pc = .ok (.iand, 1)) (k : V g F cc own nL d (pc + 1) lv (.int (x &&& y) :: st) I L R N n kr sr) : V g F cc own nL d pc lv (.int y :: .int x :: st) I L R N n kr sr := by
  intro hF H locs ls kc ks h1 h2 hH hL hl; obtain ⟨p, l, e, Rm, s, m, args, below, meth, c, Q⟩ := F; exact lv_iand hF.1 hF.2.1 hd (k hF H locs ls kc ks h1 h2 hH hL hl)
theorem v_ior {x y : Int32} (hd : decode cc pc = .ok (.ior, 1)) (k : V g F cc own nL d (pc + 1) lv (.int (x ||| y) :: st) I L R N n kr sr) : V g F cc own nL d pc lv (.int y :: .int x :: st) I L R N n kr sr := by
  intro hF H locs ls kc ks h1 h2 hH hL hl; obtain ⟨p, l, e, Rm, s, m, args, below, meth, c, Q⟩ := F; exact lv_ior hF.1 hF.2.1 hd (k hF H locs ls kc ks h1 h2 hH hL hl)
theorem v_ixor {x y : Int32} (hd : decode cc pc = .ok (.ixor, 1)) (k : V g F cc own nL d (pc + 1) lv (.int (x ^^^ y) :: st) I L R N n kr sr) : V g F cc own nL d pc lv (.int y :: .int x :: st) I L R N n kr sr := by
  intro hF H locs ls kc ks h1 h2 hH hL hl; obtain ⟨p, l, e, Rm, s, m, args, below, meth, c, Q⟩ := F; exact lv_ixor hF.1 hF.2.1 hd (k hF H locs ls kc ks h1 h2 hH hL hl)
theorem v_ishl {x y : Int32} (hd : decode cc pc = .ok (.ishl, 1)) (k : V g F cc own nL d (pc + 1) lv (.int (x <<< (y &&& 31)) :: st) I L R N n kr sr) : V g F cc own nL d pc lv (.int y :: .int x :: st) I L R N n kr sr := by
  intro hF H locs ls kc ks h1 h2 hH hL hl; obtain ⟨p, l, e, Rm, s, m, args, below, meth, c, Q⟩ := F; exact lv_ishl hF.1 hF.2.1 hd (k hF H locs ls kc ks h1 h2 hH hL hl)
theorem v_ishr {x y : Int32} (hd : decode cc pc = .ok (.ishr, 1)) (k : V g F cc own nL d (pc + 1) lv (.int (x >>> (y &&& 31)) :: st) I L R N n kr sr) : V g F cc own nL d pc lv (.int y :: .int x :: st) I L R N n kr sr := by
  intro hF H locs ls kc ks h1 h2 hH hL hl; obtain ⟨p, l, e, Rm, s, m, args, below, meth, c, Q⟩ := F; exact lv_ishr hF.1 hF.2.1 hd (k hF H locs ls kc ks h1 h2 hH hL hl)
theorem v_iushr {x y : Int32} (hd : decode cc pc = .ok (.iushr, 1)) (k : V g F cc own nL d (pc + 1) lv (.int ((x.toUInt32 >>> (y.toUInt32 &&& Int32.toUInt32 31)).toInt32) :: st) I L R N n kr sr) : V g F cc own nL d pc lv (.int y :: .int x :: st) I L R N n kr sr := by
  intro hF H locs ls kc ks h1 h2 hH hL hl; obtain ⟨p, l, e, Rm, s, m, args, below, meth, c, Q⟩ := F; exact lv_iushr hF.1 hF.2.1 hd rfl (k hF H locs ls kc ks h1 h2 hH hL hl)
theorem v_ineg {x : Int32} (hd : decode cc pc = .ok (.ineg, 1)) (k : V g F cc own nL d (pc + 1) lv (.int (-x) :: st) I L R N n kr sr) : V g F cc own nL d pc lv (.int x :: st) I L R N n kr sr := by
  intro hF H locs ls kc ks h1 h2 hH hL hl; obtain ⟨p, l, e, Rm, s, m, args, below, meth, c, Q⟩ := F; exact lv_ineg hF.1 hF.2.1 hd (k hF H locs ls kc ks h1 h2 hH hL hl)
theorem v_idiv {x y : Int32} (hd : decode cc pc = .ok (.idiv, 1)) (hy : ¬ y = 0) (k : V g F cc own nL d (pc + 1) lv (.int (x / y) :: st) I L R N n kr sr) : V g F cc own nL d pc lv (.int y :: .int x :: st) I L R N n kr sr := by
  intro hF H locs ls kc ks h1 h2 hH hL hl; obtain ⟨p, l, e, Rm, s, m, args, below, meth, c, Q⟩ := F; exact lv_idiv hF.1 hF.2.1 hd hy (k hF H locs ls kc ks h1 h2 hH hL hl)
theorem v_irem {x y : Int32} (hd : decode cc pc = .ok (.irem, 1)) (hy : ¬ y = 0) (k : V g F cc own nL d (pc + 1) lv (.int (x - x / y * y) :: st) I L R N n kr sr) : V g F cc own nL d pc lv (.int y :: .int x :: st) I L R N n kr sr := by
  intro hF H locs ls kc ks h1 h2 hH hL hl; obtain ⟨p, l, e, Rm, s, m, args, below, meth, c, Q⟩ := F; exact lv_irem hF.1 hF.2.1 hd hy (k hF H locs ls kc ks h1 h2 hH hL hl)
theorem v_i2l {x : Int32} (hd : decode cc pc = .ok (.i2l, 1)) (k : V g F cc own nL d (pc + 1) lv (.long (x.toInt64) :: st) I L R N n kr sr) : V g F cc own nL d pc lv (.int x :: st) I L R N n kr sr := by
  intro hF H locs ls kc ks h1 h2 hH hL hl; obtain ⟨p, l, e, Rm, s, m, args, below, meth, c, Q⟩ := F; exact lv_i2l hF.1 hF.2.1 hd rfl (k hF H locs ls kc ks h1 h2 hH hL hl)
theorem v_l2i {x : Int64} (hd : decode cc pc = .ok (.l2i, 1)) (k : V g F cc own nL d (pc + 1) lv (.int (x.toInt32) :: st) I L R N n kr sr) : V g F cc own nL d pc lv (.long x :: st) I L R N n kr sr := by
  intro hF H locs ls kc ks h1 h2 hH hL hl; obtain ⟨p, l, e, Rm, s, m, args, below, meth, c, Q⟩ := F; exact lv_l2i hF.1 hF.2.1 hd rfl (k hF H locs ls kc ks h1 h2 hH hL hl)
theorem v_i2b {x : Int32} (hd : decode cc pc = .ok (.i2b, 1)) (k : V g F cc own nL d (pc + 1) lv (.int (x.toInt8.toInt32) :: st) I L R N n kr sr) : V g F cc own nL d pc lv (.int x :: st) I L R N n kr sr := by
  intro hF H locs ls kc ks h1 h2 hH hL hl; obtain ⟨p, l, e, Rm, s, m, args, below, meth, c, Q⟩ := F; exact lv_i2b hF.1 hF.2.1 hd rfl (k hF H locs ls kc ks h1 h2 hH hL hl)
theorem v_i2s {x : Int32} (hd : decode cc pc = .ok (.i2s, 1)) (k : V g F cc own nL d (pc + 1) lv (.int (x.toInt16.toInt32) :: st) I L R N n kr sr) : V g F cc own nL d pc lv (.int x :: st) I L R N n kr sr := by
  intro hF H locs ls kc ks h1 h2 hH hL hl; obtain ⟨p, l, e, Rm, s, m, args, below, meth, c, Q⟩ := F; exact lv_i2s hF.1 hF.2.1 hd rfl (k hF H locs ls kc ks h1 h2 hH hL hl)
theorem v_land {x y : Int64} (hd : decode cc pc = .ok (.land, 1)) (k : V g F cc own nL d (pc + 1) lv (.long (x &&& y) :: st) I L R N n kr sr) : V g F cc own nL d pc lv (.long y :: .long x :: st) I L R N n kr sr := by
  intro hF H locs ls kc ks h1 h2 hH hL hl; obtain ⟨p, l, e, Rm, s, m, args, below, meth, c, Q⟩ := F; exact lv_land hF.1 hF.2.1 hd (k hF H locs ls kc ks h1 h2 hH hL hl)
theorem v_lor {x y : Int64} (hd : decode cc pc = .ok (.lor, 1)) (k : V g F cc own nL d (pc + 1) lv (.long (x ||| y) :: st) I L R N n kr sr) : V g F cc own nL d pc lv (.long y :: .long x :: st) I L R N n kr sr := by
  intro hF H locs ls kc ks h1 h2 hH hL hl; obtain ⟨p, l, e, Rm, s, m, args, below, meth, c, Q⟩ := F; exact lv_lor hF.1 hF.2.1 hd (k hF H locs ls kc ks h1 h2 hH hL hl)
theorem v_lshl {x : Int64} {y : Int32} (hd : decode cc pc = .ok (.lshl, 1)) (k : V g F cc own nL d (pc + 1) lv (.long (x <<< (y.toInt64 &&& 63)) :: st) I L R N n kr sr) : V g F cc own nL d pc lv (.int y :: .long x :: st) I L R N n kr sr := by
  intro hF H locs ls kc ks h1 h2 hH hL hl; obtain ⟨p, l, e, Rm, s, m, args, below, meth, c, Q⟩ := F; exact lv_lshl hF.1 hF.2.1 hd rfl (k hF H locs ls kc ks h1 h2 hH hL hl)
theorem v_lcmp {x y : Int64} (hd : decode cc pc = .ok (.lcmp, 1)) (k : V g F cc own nL d (pc + 1) lv (.int (lg_cmp x y) :: st) I L R N n kr sr) : V g F cc own nL d pc lv (.long y :: .long x :: st) I L R N n kr sr := by
  intro hF H locs ls kc ks h1 h2 hH hL hl; obtain ⟨p, l, e, Rm, s, m, args, below, meth, c, Q⟩ := F; exact W.lcmp hF.1 hF.2.1 hd (k hF H locs ls kc ks h1 h2 hH hL hl)
theorem v_dup {a : Value} (hd : decode cc pc = .ok (.dup, 1)) (ha : a.category = 1) (k : V g F cc own nL d (pc + 1) lv (a :: a :: st) I L R N n kr sr) : V g F cc own nL d pc lv (a :: st) I L R N n kr sr := by
  intro hF H locs ls kc ks h1 h2 hH hL hl; obtain ⟨p, l, e, Rm, s, m, args, below, meth, c, Q⟩ := F; exact lv_dup hF.1 hF.2.1 hd ha (k hF H locs ls kc ks h1 h2 hH hL hl)
theorem v_dup2 {a b : Value} (hd : decode cc pc = .ok (.dup2, 1)) (ha : a.category = 1) (hb : b.category = 1) (k : V g F cc own nL d (pc + 1) lv (a :: b :: a :: b :: st) I L R N n kr sr) : V g F cc own nL d pc lv (a :: b :: st) I L R N n kr sr := by
  intro hF H locs ls kc ks h1 h2 hH hL hl; obtain ⟨p, l, e, Rm, s, m, args, below, meth, c, Q⟩ := F; exact lv_dup2_11 hF.1 hF.2.1 hd ha hb (k hF H locs ls kc ks h1 h2 hH hL hl)
theorem v_pop {a : Value} (hd : decode cc pc = .ok (.pop, 1)) (ha : a.category = 1) (k : V g F cc own nL d (pc + 1) lv st I L R N n kr sr) : V g F cc own nL d pc lv (a :: st) I L R N n kr sr := by
  intro hF H locs ls kc ks h1 h2 hH hL hl; obtain ⟨p, l, e, Rm, s, m, args, below, meth, c, Q⟩ := F; exact lv_pop hF.1 hF.2.1 hd ha (k hF H locs ls kc ks h1 h2 hH hL hl)
theorem v_goto {off : Int} {tgt : Nat} (hd : decode cc pc = .ok (.goto off, 3)) (ht : (pc : Int) + off = (tgt : Int)) (k : V g F cc own nL d tgt lv st I L R N n kr sr) : V g F cc own nL d pc lv st I L R N n kr sr := by
  intro hF H locs ls kc ks h1 h2 hH hL hl; obtain ⟨p, l, e, Rm, s, m, args, below, meth, c, Q⟩ := F; exact lv_goto hF.1 hF.2.1 hd ht (k hF H locs ls kc ks h1 h2 hH hL hl)
theorem v_if_eq {x : Int32} {off : Int} {tgt : Nat} (hd : decode cc pc = .ok (.ifCond .eq off, 3)) (ht : (pc : Int) + off = (tgt : Int)) (kt : x = 0 → V g F cc own nL d tgt lv st I L R N n kr sr) (kf : ¬ x = 0 → V g F cc own nL d (pc + 3) lv st I L R N n kr sr) : V g F cc own nL d pc lv (.int x :: st) I L R N n kr sr := by
  intro hF H locs ls kc ks h1 h2 hH hL hl; obtain ⟨p, l, e, Rm, s, m, args, below, meth, c, Q⟩ := F; exact lv_if_eq hF.1 hF.2.1 hd ht (fun h => kt h hF H locs ls kc ks h1 h2 hH hL hl) (fun h => kf h hF H locs ls kc ks h1 h2 hH hL hl)
theorem v_icmp_eq {x y : Int32} {off : Int} {tgt : Nat} (hd : decode cc pc = .ok (.if_icmp .eq off, 3)) (ht : (pc : Int) + off = (tgt : Int)) (kt : x = y → V g F cc own nL d tgt lv st I L R N n kr sr) (kf : ¬ x = y → V g F cc own nL d (pc + 3) lv st I L R N n kr sr) : V g F cc own nL d pc lv (.int y :: .int x :: st) I L R N n kr sr := by
  intro hF H locs ls kc ks h1 h2 hH hL hl; obtain ⟨p, l, e, Rm, s, m, args, below, meth, c, Q⟩ := F; exact lv_icmp_eq hF.1 hF.2.1 hd ht (fun h => kt h hF H locs ls kc ks h1 h2 hH hL hl) (fun h => kf h hF H locs ls kc ks h1 h2 hH hL hl)
theorem v_if_ne {x : Int32} {off : Int} {tgt : Nat} (hd : decode cc pc = .ok (.ifCond .ne off, 3)) (ht : (pc : Int) + off = (tgt : Int)) (kt : ¬ x = 0 → V g F cc own nL d tgt lv st I L R N n kr sr) (kf : x = 0 → V g F cc own nL d (pc + 3) lv st I L R N n kr sr) : V g F cc own nL d pc lv (.int x :: st) I L R N n kr sr := by
  intro hF H locs ls kc ks h1 h2 hH hL hl; obtain ⟨p, l, e, Rm, s, m, args, below, meth, c, Q⟩ := F; exact lv_if_ne hF.1 hF.2.1 hd ht (fun h => kt h hF H locs ls kc ks h1 h2 hH hL hl) (fun h => kf h hF H locs ls kc ks h1 h2 hH hL hl)
theorem v_icmp_ne {x y : Int32} {off : Int} {tgt : Nat} (hd : decode cc pc = .ok (.if_icmp .ne off, 3)) (ht : (pc : Int) + off = (tgt : Int)) (kt : ¬ x = y → V g F cc own nL d tgt lv st I L R N n kr sr) (kf : x = y → V g F cc own nL d (pc + 3) lv st I L R N n kr sr) : V g F cc own nL d pc lv (.int y :: .int x :: st) I L R N n kr sr := by
  intro hF H locs ls kc ks h1 h2 hH hL hl; obtain ⟨p, l, e, Rm, s, m, args, below, meth, c, Q⟩ := F; exact lv_icmp_ne hF.1 hF.2.1 hd ht (fun h => kt h hF H locs ls kc ks h1 h2 hH hL hl) (fun h => kf h hF H locs ls kc ks h1 h2 hH hL hl)
theorem v_if_lt {x : Int32} {off : Int} {tgt : Nat} (hd : decode cc pc = .ok (.ifCond .lt off, 3)) (ht : (pc : Int) + off = (tgt : Int)) (kt : x < 0 → V g F cc own nL d tgt lv st I L R N n kr sr) (kf : ¬ x < 0 → V g F cc own nL d (pc + 3) lv st I L R N n kr sr) : V g F cc own nL d pc lv (.int x :: st) I L R N n kr sr := by
  intro hF H locs ls kc ks h1 h2 hH hL hl; obtain ⟨p, l, e, Rm, s, m, args, below, meth, c, Q⟩ := F; exact lv_if_lt hF.1 hF.2.1 hd ht (fun h => kt h hF H locs ls kc ks h1 h2 hH hL hl) (fun h => kf h hF H locs ls kc ks h1 h2 hH hL hl)
theorem v_icmp_lt {x y : Int32} {off : Int} {tgt : Nat} (hd : decode cc pc = .ok (.if_icmp .lt off, 3)) (ht : (pc : Int) + off = (tgt : Int)) (kt : x < y → V g F cc own nL d tgt lv st I L R N n kr sr) (kf : ¬ x < y → V g F cc own nL d (pc + 3) lv st I L R N n kr sr) : V g F cc own nL d pc lv (.int y :: .int x :: st) I L R N n kr sr := by
  intro hF H locs ls kc ks h1 h2 hH hL hl; obtain ⟨p, l, e, Rm, s, m, args, below, meth, c, Q⟩ := F; exact lv_icmp_lt hF.1 hF.2.1 hd ht (fun h => kt h hF H locs ls kc ks h1 h2 hH hL hl) (fun h => kf h hF H locs ls kc ks h1 h2 hH hL hl)
theorem v_if_ge {x : Int32} {off : Int} {tgt : Nat} (hd : decode cc pc = .ok (.ifCond .ge off, 3)) (ht : (pc : Int) + off = (tgt : Int)) (kt : 0 ≤ x → V g F cc own nL d tgt lv st I L R N n kr sr) (kf : ¬ 0 ≤ x → V g F cc own nL d (pc + 3) lv st I L R N n kr sr) : V g F cc own nL d pc lv (.int x :: st) I L R N n kr sr := by
  intro hF H locs ls kc ks h1 h2 hH hL hl; obtain ⟨p, l, e, Rm, s, m, args, below, meth, c, Q⟩ := F; exact lv_if_ge hF.1 hF.2.1 hd ht (fun h => kt h hF H locs ls kc ks h1 h2 hH hL hl) (fun h => kf h hF H locs ls kc ks h1 h2 hH hL hl)
theorem v_icmp_ge {x y : Int32} {off : Int} {tgt : Nat} (hd : decode cc pc = .ok (.if_icmp .ge off, 3)) (ht : (pc : Int) + off = (tgt : Int)) (kt : y ≤ x → V g F cc own nL d tgt lv st I L R N n kr sr) (kf : ¬ y ≤ x → V g F cc own nL d (pc + 3) lv st I L R N n kr sr) : V g F cc own nL d pc lv (.int y :: .int x :: st) I L R N n kr sr := by
  intro hF H locs ls kc ks h1 h2 hH hL hl; obtain ⟨p, l, e, Rm, s, m, args, below, meth, c, Q⟩ := F; exact lv_icmp_ge hF.1 hF.2.1 hd ht (fun h => kt h hF H locs ls kc ks h1 h2 hH hL hl) (fun h => kf h hF H locs ls kc ks h1 h2 hH hL hl)
theorem v_if_gt {x : Int32} {off : Int} {tgt : Nat} (hd : decode cc pc = .ok (.ifCond .gt off, 3)) (ht : (pc : Int) + off = (tgt : Int)) (kt : 0 < x → V g F cc own nL d tgt lv st I L R N n kr sr) (kf : ¬ 0 < x → V g F cc own nL d (pc + 3) lv st I L R N n kr sr) : V g F cc own nL d pc lv (.int x :: st) I L R N n kr sr := by
  intro hF H locs ls kc ks h1 h2 hH hL hl; obtain ⟨p, l, e, Rm, s, m, args, below, meth, c, Q⟩ := F; exact lv_if_gt hF.1 hF.2.1 hd ht (fun h => kt h hF H locs ls kc ks h1 h2 hH hL hl) (fun h => kf h hF H locs ls kc ks h1 h2 hH hL hl)
theorem v_icmp_gt {x y : Int32} {off : Int} {tgt : Nat} (hd : decode cc pc = .ok (.if_icmp .gt off, 3)) (ht : (pc : Int) + off = (tgt : Int)) (kt : y < x → V g F cc own nL d tgt lv st I L R N n kr sr) (kf : ¬ y < x → V g F cc own nL d (pc + 3) lv st I L R N n kr sr) : V g F cc own nL d pc lv (.int y :: .int x :: st) I L R N n kr sr := by
  intro hF H locs ls kc ks h1 h2 hH hL hl; obtain ⟨p, l, e, Rm, s, m, args, below, meth, c, Q⟩ := F; exact lv_icmp_gt hF.1 hF.2.1 hd ht (fun h => kt h hF H locs ls kc ks h1 h2 hH hL hl) (fun h => kf h hF H locs ls kc ks h1 h2 hH hL hl)
theorem v_if_le {x : Int32} {off : Int} {tgt : Nat} (hd : decode cc pc = .ok (.ifCond .le off, 3)) (ht : (pc : Int) + off = (tgt : Int)) (kt : x ≤ 0 → V g F cc own nL d tgt lv st I L R N n kr sr) (kf : ¬ x ≤ 0 → V g F cc own nL d (pc + 3) lv st I L R N n kr sr) : V g F cc own nL d pc lv (.int x :: st) I L R N n kr sr := by
  intro hF H locs ls kc ks h1 h2 hH hL hl; obtain ⟨p, l, e, Rm, s, m, args, below, meth, c, Q⟩ := F; exact lv_if_le hF.1 hF.2.1 hd ht (fun h => kt h hF H locs ls kc ks h1 h2 hH hL hl) (fun h => kf h hF H locs ls kc ks h1 h2 hH hL hl)
theorem v_icmp_le {x y : Int32} {off : Int} {tgt : Nat} (hd : decode cc pc = .ok (.if_icmp .le off, 3)) (ht : (pc : Int) + off = (tgt : Int)) (kt : x ≤ y → V g F cc own nL d tgt lv st I L R N n kr sr) (kf : ¬ x ≤ y → V g F cc own nL d (pc + 3) lv st I L R N n kr sr) : V g F cc own nL d pc lv (.int y :: .int x :: st) I L R N n kr sr := by
  intro hF H locs ls kc ks h1 h2 hH hL hl; obtain ⟨p, l, e, Rm, s, m, args, below, meth, c, Q⟩ := F; exact lv_icmp_le hF.1 hF.2.1 hd ht (fun h => kt h hF H locs ls kc ks h1 h2 hH hL hl) (fun h => kf h hF H locs ls kc ks h1 h2 hH hL hl)
theorem v_tabIn {dflt lo hi off : Int} {offs : Array Int} {len tgt : Nat} {x : Int32} (hd : decode cc pc = .ok (.tableswitch dflt lo hi offs, len)) (ha : ¬ x.toInt < lo) (hb : ¬ hi < x.toInt) (ho : offs[(x.toInt - lo).toNat]? = some off) (ht : (pc : Int) + off = (tgt : Int)) (k : V g F cc own nL d tgt lv st I L R N n kr sr) : V g F cc own nL d pc lv (.int x :: st) I L R N n kr sr := by
  intro hF H locs ls kc ks h1 h2 hH hL hl; obtain ⟨p, l, e, Rm, s, m, args, below, meth, c, Q⟩ := F; exact lv_tableIn hF.1 hF.2.1 hd ha hb ho ht (k hF H locs ls kc ks h1 h2 hH hL hl)
theorem v_tabOut {dflt lo hi : Int} {offs : Array Int} {len tgt : Nat} {x : Int32} (hd : decode cc pc = .ok (.tableswitch dflt lo hi offs, len)) (h : x.toInt < lo ∨ hi < x.toInt) (ht : (pc : Int) + dflt = (tgt : Int)) (k : V g F cc own nL d tgt lv st I L R N n kr sr) : V g F cc own nL d pc lv (.int x :: st) I L R N n kr sr := by
  intro hF H locs ls kc ks h1 h2 hH hL hl; obtain ⟨p, l, e, Rm, s, m, args, below, meth, c, Q⟩ := F; exact lv_tableOut hF.1 hF.2.1 hd h ht (k hF H locs ls kc ks h1 h2 hH hL hl)
theorem v_look {dflt off : Int} {ps : Array (Int × Int)} {len tgt : Nat} {x : Int32} (hd : decode cc pc = .ok (.lookupswitch dflt ps, len)) (hp : (ps.toList.zip (ps.toList.drop 1)).all (fun (a, next) => a.1 < next.1) = true) (ho : Op.lookupswitch.offset ps.toList dflt x.toInt = off) (ht : (pc : Int) + off = (tgt : Int)) (k : V g F cc own nL d tgt lv st I L R N n kr sr) : V g F cc own nL d pc lv (.int x :: st) I L R N n kr sr := by
  intro hF H locs ls kc ks h1 h2 hH hL hl; obtain ⟨p, l, e, Rm, s, m, args, below, meth, c, Q⟩ := F; exact lv_lookup hF.1 hF.2.1 hd hp ho ht (k hF H locs ls kc ks h1 h2 hH hL hl)
theorem v_topi {x : Int32} (k : ∀ y : Int32, y = x → V g F cc own nL d pc lv (.int y :: st) I L R N n kr sr) : V g F cc own nL d pc lv (.int x :: st) I L R N n kr sr := k x rfl
theorem v_is {x y : Int32} (e : x = y) (k : V g F cc own nL d pc lv (.int y :: st) I L R N n kr sr) : V g F cc own nL d pc lv (.int x :: st) I L R N n kr sr := by rw [e]; exact k
theorem v_st {st2 : List Value} (e : st = st2) (k : V g F cc own nL d pc lv st2 I L R N n kr sr) : V g F cc own nL d pc lv st I L R N n kr sr := by rw [e]; exact k
theorem v_I {I2 : Ty} (e : I = I2) (k : V g F cc own nL d pc lv st I2 L R N n kr sr) : V g F cc own nL d pc lv st I L R N n kr sr := by rw [e]; exact k
/-- a field of a class's objects, as an instruction of a class names it -/
def Fa (own : String) (index ci j : Nat) : Prop := ∃ (C : String) (T : u_T) (M : Nat), vwCl[ci]? = some (C, T, M) ∧ j < M ∧ Cond.fieldLink own index (T j).1 (T j).2.1 (T j).2.2.1 ∈ UW ∧ (∀ w ∈ u_ws C T M, w ∈ UW)
theorem ent_o {g : Gl} {Ik : Nat → Int32} {Lk : Nat → Int64} {Rk : Nat → Option Nat} {nk ci : Nat} (h : ci < 9) : ent g Ik Lk Rk nk ci = .inr (ci, fld g.1 Ik Rk ci) := by unfold ent; rw [if_pos h]
theorem v_get {index ci j k : Nat} {v : Value} (ha : Fa own index ci j) (hd : decode cc pc = .ok (.getfield index, 3)) (hk : kd k = ci) (hc : ci < 9) (hn : k < n) (hv : (fld g.1 (I k) (R k) ci)[j]? = some v) (kk : V g F cc own nL d (pc + 3) lv (v :: st) I L R N n kr sr) : V g F cc own nL d pc lv (.ref (g.1 + k) :: st) I L R N n kr sr := by
  obtain ⟨C, T, M, hC, hj, hlk, hin⟩ := ha
  intro hF H locs ls kc ks h1 h2 hH hL hl; obtain ⟨p, l, e, Rm, s, m, args, below, meth, c, Q⟩ := F
  have hP : va_P g.2.1 vwCl [(g.1 + k, ent g (I k) (L k) (R k) (N k) (kd k))] H := fun a q hq => by
    have : a < 1 := (List.getElem?_eq_some_iff.mp hq).1
    obtain rfl : a = 0 := by omega
    cases hq; exact hH.2.2 k hn
  rw [hk, ent_o hc] at hP
  exact va_get (ci := ci) (C := C) (T := T) (N := M) hF.1 hF.2.1 hF.2.2.2.2.1 hin hF.2.2.2.1 hF.2.2.2.2.2.1.2.1 hP 0 rfl hC j hj (hF.2.2.2.2.1 _ hlk) (fun _ h9 => h9) hv hd (kk hF H locs ls kc ks h1 h2 hH hL hl)
/-- a field that may be written, as an instruction names it -/
def Pa (own : String) (index ci j : Nat) (ty : FieldType) : Prop := ∃ (C : String) (T : u_T) (M : Nat) (ty0 : Nat → FieldType), vwCl[ci]? = some (C, T, M) ∧ j < M ∧ Cond.fieldLink own index (T j).1 (T j).2.1 (T j).2.2.1 ∈ UW ∧ (∀ w ∈ u_ws C T M, w ∈ UW) ∧ (∀ k, k < M → parseFieldDescriptor (T k).2.2.1 = some (ty0 k)) ∧ (∀ a, a < M → ∀ b, b < M → a ≠ b → (T a).2.1 ≠ (T b).2.1) ∧ (T j).2.2.2 = false ∧ parseFieldDescriptor (T j).2.2.1 = some ty
theorem v_putC {index ci j k : Nat} {ty : FieldType} {v : Value} {I2 : Ty} {R2 : TR} (ha : Pa own index ci j ty) (hd : decode cc pc = .ok (.putfield index, 3)) (hk : kd k = ci) (hc : ci < 9) (hn : k < n) (hnr : narrow ty v = v) (hfit : fits ty v = true) (hl9 : j < (fld g.1 (I k) (R k) ci).length)
    (hI : ∀ a, a ≠ k → I2 a = I a) (hR : ∀ a, a ≠ k → R2 a = R a) (hv : (fld g.1 (I k) (R k) ci).set j v = fld g.1 (I2 k) (R2 k) ci) (kk : V g F cc own nL d (pc + 3) lv st I2 L R2 N n kr sr) : V g F cc own nL d pc lv (v :: .ref (g.1 + k) :: st) I L R N n kr sr := by
  obtain ⟨C, T, M, ty0, hC, hj, hlk, hin, hty, hnm, hfin, hdd⟩ := ha
  intro hF H locs ls kc ks h1 h2 hH hL hl; obtain ⟨p, l, e, Rm, s, m, args, below, meth, c, Q⟩ := F
  have hat := hH.2.2 k hn
  rw [hk, ent_o hc] at hat
  have hK := hF.2.2.2.2.2.1.2.1
  have hap := va_apart (own := own) hF.2.2.2.2.1 hin ty0 hty hnm hK hC
  obtain ⟨r, g1, cell, q1, q2, q3, q4⟩ := hat
  have hr : r = (C, T, M) := Option.some.inj (g1.symm.trans hC)
  subst hr
  obtain ⟨hS, hfc, kC, hkC, hkind⟩ := hK.1 ci _ hC
  obtain ⟨cf, kf, fi, f, hi, hsl⟩ := hS j hj
  have hlay := hF.2.2.2.2.1 _ (hin _ (u_in_lay hj))
  unfold u_lay at hlay
  rw [if_neg (by rw [hfin]; decide)] at hlay
  have hst := (u_facts hfc hkC (u_lays hF.2.2.2.2.1 hin hj) hi).1
  have h6 := u_store hfc hkC hkind hlay hi hdd hnr hfit
  refine W.putK hF.1 hF.2.1 (f := f) ⟨hF.2.2.2.1, hF.2.2.2.2.1 _ hlk, ⟨_, _, _, hi⟩, hst⟩ (by rw [q2]; exact h6) q1 q3 (by rw [hsl]; exact k2_hasslot (q4 j hj)) rfl rfl hd fun H' e1 e2 e3 => ?_
  rw [hsl] at e1 ⊢
  refine kk hF H' _ ls kc ks h1 h2 (hH.set hn e2 e3 hI (fun _ _ => rfl) hR (fun _ _ => rfl) ?_) (fun q hq => ?_) hl
  · rw [hk, ent_o hc, ← hv]
    exact ⟨_, hC, t_OB.to (V := updV (vp_V (fld g.1 (I k) (R k) ci)) j v) ⟨_, e1, q2, q3, t_set q4 hap hj v⟩ (fun i _ => vp_updV_set hl9 v i)⟩
  · rcases List.mem_append.mp hq with h | h
    · exact hL q h
    · rw [List.mem_singleton.mp h]; exact Nat.le_add_right _ _
theorem up_ne {α : Type} {f : Nat → α} {k : Nat} {x : α} : ∀ a, a ≠ k → va_up f k x a = f a := fun a h => if_neg h
theorem up_eq {α : Type} {f : Nat → α} {k : Nat} {x : α} : va_up f k x k = x := if_pos rfl
theorem v_puti {index ci j k : Nat} {x : Int32} (ha : Pa own index ci j .int) (hd : decode cc pc = .ok (.putfield index, 3)) (hk : kd k = ci) (hc : ci < 9) (hn : k < n) (hl9 : j < (fld g.1 (I k) (R k) ci).length) (hv : (fld g.1 (I k) (R k) ci).set j (.int x) = fld g.1 (va_up (I k) j x) (R k) ci)
    (kk : V g F cc own nL d (pc + 3) lv st (va_up I k (va_up (I k) j x)) L R N n kr sr) : V g F cc own nL d pc lv (.int x :: .ref (g.1 + k) :: st) I L R N n kr sr :=
  v_putC ha hd hk hc hn rfl rfl hl9 up_ne (fun _ _ => rfl) (by rw [up_eq]; exact hv) kk
theorem v_putz {index ci j k : Nat} {x : Int32} (ha : Pa own index ci j .boolean) (hd : decode cc pc = .ok (.putfield index, 3)) (hk : kd k = ci) (hc : ci < 9) (hn : k < n) (hx : narrow .boolean (.int x) = .int x) (hf : fits .boolean (.int x) = true) (hl9 : j < (fld g.1 (I k) (R k) ci).length) (hv : (fld g.1 (I k) (R k) ci).set j (.int x) = fld g.1 (va_up (I k) j x) (R k) ci)
    (kk : V g F cc own nL d (pc + 3) lv st (va_up I k (va_up (I k) j x)) L R N n kr sr) : V g F cc own nL d pc lv (.int x :: .ref (g.1 + k) :: st) I L R N n kr sr :=
  v_putC ha hd hk hc hn hx hf hl9 up_ne (fun _ _ => rfl) (by rw [up_eq]; exact hv) kk
theorem v_putr {index ci j k t : Nat} {C0 : String} (ha : Pa own index ci j (.object C0)) (hd : decode cc pc = .ok (.putfield index, 3)) (hk : kd k = ci) (hc : ci < 9) (hn : k < n) (hl9 : j < (fld g.1 (I k) (R k) ci).length) (hv : (fld g.1 (I k) (R k) ci).set j (.ref (g.1 + t)) = fld g.1 (I k) (va_up (R k) j (some t)) ci)
    (kk : V g F cc own nL d (pc + 3) lv st I L (va_up R k (va_up (R k) j (some t))) N n kr sr) : V g F cc own nL d pc lv (.ref (g.1 + t) :: .ref (g.1 + k) :: st) I L R N n kr sr :=
  v_putC ha hd hk hc hn rfl rfl hl9 (fun _ _ => rfl) up_ne (by rw [up_eq]; exact hv) kk
theorem ent_i {g : Gl} {Ik : Nat → Int32} {Lk : Nat → Int64} {Rk : Nat → Option Nat} {nk : Nat} : ent g Ik Lk Rk nk 9 = .inl (g.2.2.1.1, nk, .inl Ik) := rfl
theorem ent_l {g : Gl} {Ik : Nat → Int32} {Lk : Nat → Int64} {Rk : Nat → Option Nat} {nk : Nat} : ent g Ik Lk Rk nk 10 = .inl (g.2.2.1.2.1, nk, .inr (.inl Lk)) := rfl
theorem ent_z {g : Gl} {Ik : Nat → Int32} {Lk : Nat → Int64} {Rk : Nat → Option Nat} {nk : Nat} : ent g Ik Lk Rk nk 11 = .inl (g.2.2.1.2.2.1, nk, .inl Ik) := rfl
theorem ent_r {g : Gl} {Ik : Nat → Int32} {Lk : Nat → Int64} {Rk : Nat → Option Nat} {nk : Nat} : ent g Ik Lk Rk nk 12 = .inl (g.2.2.1.2.2.2, nk, .inr (.inr (.inr (.inr (fun j => (Rk j).map (g.1 + ·)))))) := rfl
theorem Hp.one {H : Heap} {k kk : Nat} (hH : Hp g I L R N n H) (hn : k < n) (hk : kd k = kk) : va_P g.2.1 vwCl [(g.1 + k, ent g (I k) (L k) (R k) (N k) kk)] H := fun a q hq => by
  have : a < 1 := (List.getElem?_eq_some_iff.mp hq).1
  obtain rfl : a = 0 := by omega
  cases hq; rw [← hk]; exact hH.2.2 k hn
theorem nI_cl {j len : Nat} (hj : j < len) (hlen : len < 2 ^ 31) : (nI j).toNatClampNeg = j := nI_clamp (by omega)
theorem v_iaload {k j len : Nat} {x : Int32} (hd : decode cc pc = .ok (.iaload, 1)) (hk : kd k = 9) (hn : k < n) (hN : N k = len) (hlen : len < 2 ^ 31) (hx : x = nI j) (hj : j < len) (kk : V g F cc own nL d (pc + 1) lv (.int (I k j) :: st) I L R N n kr sr) : V g F cc own nL d pc lv (.int x :: .ref (g.1 + k) :: st) I L R N n kr sr := by
  intro hF H locs ls kc ks h1 h2 hH hL hl; obtain ⟨p, l, e, Rm, s, m, args, below, meth, c, Q⟩ := F
  subst hx
  have hP := hH.one hn hk
  rw [hN, ent_i] at hP
  refine va_iald hF.1 hF.2.1 hF.2.2.2.2.2.1.2.1 hP 0 0 rfl rfl (vp_in_nI hj hlen) hd ?_
  rw [nI_cl hj hlen]
  exact kk hF H locs ls kc ks h1 h2 hH hL hl
theorem v_laload {k j len : Nat} {x : Int32} (hd : decode cc pc = .ok (.laload, 1)) (hk : kd k = 10) (hn : k < n) (hN : N k = len) (hlen : len < 2 ^ 31) (hx : x = nI j) (hj : j < len) (kk : V g F cc own nL d (pc + 1) lv (.long (L k j) :: st) I L R N n kr sr) : V g F cc own nL d pc lv (.int x :: .ref (g.1 + k) :: st) I L R N n kr sr := by
  intro hF H locs ls kc ks h1 h2 hH hL hl; obtain ⟨p, l, e, Rm, s, m, args, below, meth, c, Q⟩ := F
  subst hx
  have hP := hH.one hn hk
  rw [hN, ent_l] at hP
  refine va_lald hF.1 hF.2.1 hF.2.2.2.2.2.1.2.1 hP 0 1 rfl rfl (vp_in_nI hj hlen) hd ?_
  rw [nI_cl hj hlen]
  exact kk hF H locs ls kc ks h1 h2 hH hL hl
theorem v_baload {k j len : Nat} {x : Int32} (hd : decode cc pc = .ok (.baload, 1)) (hk : kd k = 11) (hn : k < n) (hN : N k = len) (hlen : len < 2 ^ 31) (hx : x = nI j) (hj : j < len) (kk : V g F cc own nL d (pc + 1) lv (.int (I k j) :: st) I L R N n kr sr) : V g F cc own nL d pc lv (.int x :: .ref (g.1 + k) :: st) I L R N n kr sr := by
  intro hF H locs ls kc ks h1 h2 hH hL hl; obtain ⟨p, l, e, Rm, s, m, args, below, meth, c, Q⟩ := F
  subst hx
  have hP := hH.one hn hk
  rw [hN, ent_z] at hP
  refine va_zald hF.1 hF.2.1 hF.2.2.2.2.2.1.2.1 hP 0 2 rfl rfl (vp_in_nI hj hlen) hd ?_
  rw [nI_cl hj hlen]
  exact kk hF H locs ls kc ks h1 h2 hH hL hl
theorem v_aaload {k j len t : Nat} {x : Int32} (hd : decode cc pc = .ok (.aaload, 1)) (hk : kd k = 12) (hn : k < n) (hN : N k = len) (hlen : len < 2 ^ 31) (hx : x = nI j) (hj : j < len) (hr : R k j = some t) (kk : V g F cc own nL d (pc + 1) lv (.ref (g.1 + t) :: st) I L R N n kr sr) : V g F cc own nL d pc lv (.int x :: .ref (g.1 + k) :: st) I L R N n kr sr := by
  intro hF H locs ls kc ks h1 h2 hH hL hl; obtain ⟨p, l, e, Rm, s, m, args, below, meth, c, Q⟩ := F
  subst hx
  have hP := hH.one hn hk
  rw [hN, ent_r] at hP
  refine va_aldq hF.1 hF.2.1 hF.2.2.2.2.2.1.2.1 hP 0 3 rfl rfl (vp_in_nI hj hlen) hd ?_
  rw [nI_cl hj hlen, hr]
  exact kk hF H locs ls kc ks h1 h2 hH hL hl
theorem v_alen {k len : Nat} (hd : decode cc pc = .ok (.arraylength, 1)) (hk : kd k = 9) (hn : k < n) (hN : N k = len) (kk : V g F cc own nL d (pc + 1) lv (.int (nI len) :: st) I L R N n kr sr) : V g F cc own nL d pc lv (.ref (g.1 + k) :: st) I L R N n kr sr := by
  intro hF H locs ls kc ks h1 h2 hH hL hl; obtain ⟨p, l, e, Rm, s, m, args, below, meth, c, Q⟩ := F
  have hP := hH.one hn hk
  rw [hN, ent_i] at hP
  exact va_alen hF.1 hF.2.1 hF.2.2.2.2.2.1.2.1 hP 0 0 rfl rfl rfl hd (kk hF H locs ls kc ks h1 h2 hH hL hl)
theorem v_iastore {k j len : Nat} {x : Int32} {x2 : Int32} (hd : decode cc pc = .ok (.iastore, 1)) (hk : kd k = 9) (hn : k < n) (hN : N k = len) (hlen : len < 2 ^ 31) (hx : x = nI j) (hj : j < len) (kk : V g F cc own nL d (pc + 1) lv st (va_up I k (va_up (I k) j x2)) L R N n kr sr) : V g F cc own nL d pc lv (.int x2 :: .int x :: .ref (g.1 + k) :: st) I L R N n kr sr := by
  intro hF H locs ls kc ks h1 h2 hH hL hl; obtain ⟨p, l, e, Rm, s, m, args, below, meth, c, Q⟩ := F
  subst hx
  have hP := hH.2.2 k hn
  rw [hk, hN, ent_i] at hP
  have hK := (hF.2.2.2.2.2.1.2.1.2 0 _ rfl).1
  refine W.iast hF.1 hF.2.1 hP (hK len (fun j => .int (I k j))) (fun q => by cases q) (by show ¬ (nI j < 0 ∨ (arrV _ _ _).slots.size ≤ _); rw [arrV_size]; exact vp_in_nI hj hlen) rfl rfl hd fun H' e1 e2 e3 => ?_
  rw [nI_cl hj hlen] at e1 ⊢
  refine kk hF H' _ ls kc ks h1 h2 (hH.set hn e2 e3 up_ne (fun _ _ => rfl) (fun _ _ => rfl) (fun _ _ => rfl) ?_) (fun q hq => ?_) hl
  · rw [hk, hN, ent_i, up_eq]
    show H'[g.1 + k]? = some (vp_cell _ _)
    rw [e1, vp_cell_i, vp_cell_i, arrV_store]
    congr 2
    funext q
    by_cases hq : q = j
    · subst hq; simp [updV, va_up]
    · simp [updV, va_up, hq]
  · rcases List.mem_append.mp hq with h | h
    · exact hL q h
    · rw [List.mem_singleton.mp h]; exact Nat.le_add_right _ _
theorem v_lastore {k j len : Nat} {x : Int32} {x2 : Int64} (hd : decode cc pc = .ok (.lastore, 1)) (hk : kd k = 10) (hn : k < n) (hN : N k = len) (hlen : len < 2 ^ 31) (hx : x = nI j) (hj : j < len) (kk : V g F cc own nL d (pc + 1) lv st I (va_up L k (va_up (L k) j x2)) R N n kr sr) : V g F cc own nL d pc lv (.long x2 :: .int x :: .ref (g.1 + k) :: st) I L R N n kr sr := by
  intro hF H locs ls kc ks h1 h2 hH hL hl; obtain ⟨p, l, e, Rm, s, m, args, below, meth, c, Q⟩ := F
  subst hx
  have hP := hH.2.2 k hn
  rw [hk, hN, ent_l] at hP
  have hK := (hF.2.2.2.2.2.1.2.1.2 1 _ rfl).1
  refine W.last hF.1 hF.2.1 hP (hK len (fun j => .long (L k j))) (fun q => by cases q) (by show ¬ (nI j < 0 ∨ (arrV _ _ _).slots.size ≤ _); rw [arrV_size]; exact vp_in_nI hj hlen) rfl rfl hd fun H' e1 e2 e3 => ?_
  rw [nI_cl hj hlen] at e1 ⊢
  refine kk hF H' _ ls kc ks h1 h2 (hH.set hn e2 e3 (fun _ _ => rfl) up_ne (fun _ _ => rfl) (fun _ _ => rfl) ?_) (fun q hq => ?_) hl
  · rw [hk, hN, ent_l, up_eq]
    show H'[g.1 + k]? = some (vp_cell _ _)
    rw [e1, vp_cell_l, vp_cell_l, arrV_store]
    congr 2
    funext q
    by_cases hq : q = j
    · subst hq; simp [updV, va_up]
    · simp [updV, va_up, hq]
  · rcases List.mem_append.mp hq with h | h
    · exact hL q h
    · rw [List.mem_singleton.mp h]; exact Nat.le_add_right _ _
theorem v_bastore {k j len : Nat} {x x2 : Int32} (hd : decode cc pc = .ok (.bastore, 1)) (hk : kd k = 11) (hn : k < n) (hN : N k = len) (hlen : len < 2 ^ 31) (hx : x = nI j) (hj : j < len) (hz : narrow .boolean (.int x2) = .int x2) (kk : V g F cc own nL d (pc + 1) lv st (va_up I k (va_up (I k) j x2)) L R N n kr sr) : V g F cc own nL d pc lv (.int x2 :: .int x :: .ref (g.1 + k) :: st) I L R N n kr sr := by
  intro hF H locs ls kc ks h1 h2 hH hL hl; obtain ⟨p, l, e, Rm, s, m, args, below, meth, c, Q⟩ := F
  subst hx
  have hP := hH.2.2 k hn
  rw [hk, hN, ent_z] at hP
  have hK := (hF.2.2.2.2.2.1.2.1.2 2 _ rfl).1
  refine W.zast hF.1 hF.2.1 hP (hK len (fun j => .int (I k j))) (fun q => by cases q) (by show ¬ (nI j < 0 ∨ (arrV _ _ _).slots.size ≤ _); rw [arrV_size]; exact vp_in_nI hj hlen) rfl rfl hd fun H' e1 e2 e3 => ?_
  rw [nI_cl hj hlen] at e1 ⊢
  rw [hz] at e1
  refine kk hF H' _ ls kc ks h1 h2 (hH.set hn e2 e3 up_ne (fun _ _ => rfl) (fun _ _ => rfl) (fun _ _ => rfl) ?_) (fun q hq => ?_) hl
  · rw [hk, hN, ent_z, up_eq]
    show H'[g.1 + k]? = some (vp_cell _ _)
    rw [e1, vp_cell_i, vp_cell_i, arrV_store]
    congr 2
    funext q
    by_cases hq : q = j
    · subst hq; simp [updV, va_up]
    · simp [updV, va_up, hq]
  · rcases List.mem_append.mp hq with h | h
    · exact hL q h
    · rw [List.mem_singleton.mp h]; exact Nat.le_add_right _ _
theorem v_iret {v : Int32} {post : Post} (hr : Fret g F (some .int) post) (hd : decode cc pc = .ok (.ireturn, 1)) (h : post (some (.int v)) I L R N n) : V g F cc own nL d pc lv [(.int v)] I L R N n kr sr := by
  intro hF H locs ls kc ks h1 h2 hH hL hl; obtain ⟨p, l, e, Rm, s, m, args, below, meth, c, Q⟩ := F; obtain ⟨hQ, hret, hlk⟩ := hr
  dsimp only at hQ hret hlk h1 h2 ⊢; subst hQ
  refine W.widen (k := Rm.cells) (n := Rm.slots) (Nat.le_trans (Nat.le_add_right _ _) h1) (Nat.le_trans (Nat.le_add_right _ _) h2) ?_
  exact W.iret hF.1 hF.2.1 hret (fun t ht hW => ⟨_, I, L, R, N, n, rfl, h, by rw [ht]; exact hH⟩) hL hd hlk
theorem v_lret {v : Int64} {post : Post} (hr : Fret g F (some .long) post) (hd : decode cc pc = .ok (.lreturn, 1)) (h : post (some (.long v)) I L R N n) : V g F cc own nL d pc lv [(.long v)] I L R N n kr sr := by
  intro hF H locs ls kc ks h1 h2 hH hL hl; obtain ⟨p, l, e, Rm, s, m, args, below, meth, c, Q⟩ := F; obtain ⟨hQ, hret, hlk⟩ := hr
  dsimp only at hQ hret hlk h1 h2 ⊢; subst hQ
  refine W.widen (k := Rm.cells) (n := Rm.slots) (Nat.le_trans (Nat.le_add_right _ _) h1) (Nat.le_trans (Nat.le_add_right _ _) h2) ?_
  exact W.lret hF.1 hF.2.1 hret (fun t ht hW => ⟨_, I, L, R, N, n, rfl, h, by rw [ht]; exact hH⟩) hL hd hlk
theorem v_zret {v : Int32} {ty : FieldType} {post : Post} (hr : Fret g F (some ty) post) (hd : decode cc pc = .ok (.ireturn, 1)) (hn : narrow ty (.int v) = .int v) (h : post (some (.int v)) I L R N n) : V g F cc own nL d pc lv [.int v] I L R N n kr sr := by
  intro hF H locs ls kc ks h1 h2 hH hL hl; obtain ⟨p, l, e, Rm, s, m, args, below, meth, c, Q⟩ := F; obtain ⟨hQ, hret, hlk⟩ := hr
  dsimp only at hQ hret hlk h1 h2 ⊢; subst hQ
  refine W.widen (k := Rm.cells) (n := Rm.slots) (Nat.le_trans (Nat.le_add_right _ _) h1) (Nat.le_trans (Nat.le_add_right _ _) h2) ?_
  exact W.zret hF.1 hF.2.1 hret hn (fun t ht hW => ⟨_, I, L, R, N, n, rfl, h, by rw [ht]; exact hH⟩) hL hd hlk
theorem v_vret {post : Post} (hr : Fret g F none post) (hd : decode cc pc = .ok (.return_, 1)) (h : post none I L R N n) : V g F cc own nL d pc lv [] I L R N n kr sr := by
  intro hF H locs ls kc ks h1 h2 hH hL hl; obtain ⟨p, l, e, Rm, s, m, args, below, meth, c, Q⟩ := F; obtain ⟨hQ, hret, hlk⟩ := hr
  dsimp only at hQ hret hlk h1 h2 ⊢; subst hQ
  refine W.widen (k := Rm.cells) (n := Rm.slots) (Nat.le_trans (Nat.le_add_right _ _) h1) (Nat.le_trans (Nat.le_add_right _ _) h2) ?_
  exact W.vret hF.1 hF.2.1 hret (fun t ht hW => ⟨_, I, L, R, N, n, rfl, h, by rw [ht]; exact hH⟩) hL hd hlk
theorem v_aret {a : Nat} {C0 : String} {post : Post} (hr : Fret g F (some (.object C0)) post) (hd : decode cc pc = .ok (.areturn, 1)) (h : post (some (.ref a)) I L R N n) : V g F cc own nL d pc lv [.ref a] I L R N n kr sr := by
  intro hF H locs ls kc ks h1 h2 hH hL hl; obtain ⟨p, l, e, Rm, s, m, args, below, meth, c, Q⟩ := F; obtain ⟨hQ, hret, hlk⟩ := hr
  dsimp only at hQ hret hlk h1 h2 ⊢; subst hQ
  refine W.widen (k := Rm.cells) (n := Rm.slots) (Nat.le_trans (Nat.le_add_right _ _) h1) (Nat.le_trans (Nat.le_add_right _ _) h2) ?_
  exact W.aret hF.1 hF.2.1 hret (Or.inl ⟨_, rfl⟩) (Or.inr ⟨_, rfl⟩) (fun t ht hW => ⟨_, I, L, R, N, n, rfl, h, by rw [ht]; exact hH⟩) hL hd hlk
/-- what the tables say of a call -/
def Lk (own : String) (index : Nat) (y : MethodName) (bytes : ByteArray) (mL : Nat) (ret : Option FieldType) (na : Nat) : Prop := Cond.methodLink own index y ∈ UW ∧ Cond.code y bytes mL ret ∈ UW ∧ Cond.initialized y.cls ∈ UW ∧ (y.cls ≠ "java/lang/invoke/MethodHandle" ∧ y.cls ≠ "java/lang/invoke/VarHandle") ∧ (parseMethodDescriptor y.desc).map (fun d => d.parameters.length) = some na ∧ mL ≤ 40
def LkV (own : String) (index : Nat) (y : MethodName) (bytes : ByteArray) (mL : Nat) (ret : Option FieldType) (na ci : Nat) : Prop := Lk own index y bytes mL ret na ∧ Cond.instanceMethod y ∈ UW ∧ Cond.selects y.cls y y ∈ UW ∧ ci < 9 ∧ (vwCl[ci]?).map (fun q => q.1) = some y.cls
def LkS (own : String) (index : Nat) (y : MethodName) (bytes : ByteArray) (mL : Nat) (ret : Option FieldType) (na : Nat) : Prop := Lk own index y bytes mL ret na ∧ Cond.static y ∈ UW
def LkI (own : String) (index : Nat) (y : MethodName) (bytes : ByteArray) (mL : Nat) (na : Nat) : Prop := Lk own index y bytes mL none na ∧ y.name = "<init>" ∧ Cond.instanceMethod y ∈ UW
theorem uw_good {w : Cond} (h : w ∈ UW) : (w.onTables && w.keeps) = true ∨ ∃ ty, w = .arrayClass ty := good_of_word (List.mem_filter.mp h).2
theorem uw_in {y : MethodName} {bytes : ByteArray} {mL : Nat} {ret : Option FieldType} (h : Cond.code y bytes mL ret ∈ UW) : GoodIn UW (Cond.code y bytes mL ret :: UW) := fun w hw => by
  have h1 : w ∈ UW := by
    rcases List.mem_cons.mp hw with e | e
    · rw [e]; exact h
    · exact e
  exact ⟨h1, uw_good h1⟩
theorem cat_sum : ∀ l : List Value, (l.map fun v => v.category).sum ≤ 2 * l.length
  | [] => Nat.le_refl _
  | v :: l => by
    have h := cat_sum l
    have hc := lv_cat v
    simp only [List.map_cons, List.sum_cons, List.length_cons]
    omega
theorem pc_blind {args : List Value} : FrameBlind (PcD g args I L R N n) := fun _ _ _ _ q => ⟨q.1, q.2.1.same rfl, q.2.2⟩
theorem v_callK {y : MethodName} {bytes : ByteArray} {mL na dc mc ms index : Nat} {ret : Option FieldType} (hl : Lk own index y bytes mL ret na) {p : Program} {l : Launch} {e : Env} {Rm : Room} {s : State} {m : MethodId} {args : Array Value} {below : List Frame} {meth : Method} {c : Code} {Q : State → Prop}
    (hF : Fok g (p, l, e, Rm, s, m, args, below, meth, c, Q) cc own nL d) (hdc : dc + 1 ≤ d) : CallB Rm s args own index y bytes mL ret (Cond.code y bytes mL ret :: UW) (rmD dc mc ms) mc ms na := by
  obtain ⟨hlk, hcode, hini, hne, hpar, hmL⟩ := hl
  obtain ⟨hx, hb, hml, ho, hts, hE, hf1, hf2⟩ := hF
  exact ⟨rfl, rfl, Nat.le_trans hdc hf1, Nat.le_trans (by show 8 + (mL + 11) + 60 * dc ≤ 60 * d; omega) hf2, pay_in hts (uw_in hcode), List.mem_cons_self, hts _ hcode, hts _ hini, hne, fun sig h => by rw [h] at hpar; exact (Option.some.inj hpar).symm, hts _ hlk⟩
theorem v_callE {post : Post} {rest : List Value} {mc ms : Nat} (hmc : mc ≤ kr) (hms : ms ≤ sr)
    (kk : ∀ (v : Option Value) (I' : Ty) (L' : TL) (R' : TR) (N' : TN) (n' : Nat), post v I' L' R' N' n' → V g F cc own nL d (pc + 3) lv (v.toList ++ rest) I' L' R' N' n' (kr - mc) (sr - ms))
    {p : Program} {l : Launch} {e : Env} {Rm : Room} {s : State} {m : MethodId} {args : Array Value} {below : List Frame} {meth : Method} {c : Code} {Q : State → Prop} (hFe : F = (p, l, e, Rm, s, m, args, below, meth, c, Q)) (hF : Fok g (p, l, e, Rm, s, m, args, below, meth, c, Q) cc own nL d)
    {H : Heap} {locs : List Loc} {ls : Array Slot} {kc ks : Nat} (h1 : kc + kr ≤ Rm.cells) (h2 : ks + sr ≤ Rm.slots) (hL : ∀ q ∈ locs, g.1 ≤ q.base) (hl : lv_has ls nL lv) {a : Array Value}
    (run : va_Run p l e Rm s m args below meth c H locs kc ks mc ms (F0 m pc ls st) rest (Qq g post a) (AG g)) : W p l e Rm s m args below meth c H locs kc ks Q (F0 m pc ls st) := by
  subst hFe
  intro T hT X
  obtain ⟨v, st0, t, T', L2, h0, X', hL2, e1, e2, hq, stp⟩ := run T hT X
  obtain ⟨v', I', L', R', N', n', hv, hpost, hH'⟩ := hq
  cases hv
  obtain ⟨t2, a1, b1⟩ := kk v I' L' R' N' n' hpost hF T'.heap (locs ++ L2) ls (kc + mc) (ks + ms) (by show kc + mc + (kr - mc) ≤ Rm.cells; omega) (by show ks + ms + (sr - ms) ≤ Rm.slots; omega) (by rw [e1]; exact hH') (fun q hq => by
    rcases List.mem_append.mp hq with h | h
    · exact hL q h
    · exact hL2 q h) hl T' rfl X'
  exact ⟨t2, stp t2 a1, b1⟩
theorem v_callV {index na mL dc mc ms k ci : Nat} {y : MethodName} {bytes : ByteArray} {ret : Option FieldType} {As rest : List Value} {post : Post} (hl : LkV own index y bytes mL ret na ci) (hM : Ct g y bytes mL ret dc mc ms (.ref (g.1 + k) :: As) I L R N n post) (hd : decode cc pc = .ok (.invokevirtual index, 3)) (hk : kd k = ci) (hn : k < n)
    (hna : As.length = na) (hst : st = As.reverse ++ .ref (g.1 + k) :: rest) (hrest : rest.length ≤ 4) (hdc : dc + 1 ≤ d) (hmc : mc ≤ kr) (hms : ms ≤ sr)
    (kk : ∀ (v : Option Value) (I' : Ty) (L' : TL) (R' : TR) (N' : TN) (n' : Nat), post v I' L' R' N' n' → V g F cc own nL d (pc + 3) lv (v.toList ++ rest) I' L' R' N' n' (kr - mc) (sr - ms)) : V g F cc own nL d pc lv st I L R N n kr sr := by
  obtain ⟨hl, him, hsel, hci, hcl⟩ := hl
  intro hF H locs ls kc ks h1 h2 hH hL hlv; obtain ⟨p, l, e, Rm, s, m, args, below, meth, c, Q⟩ := F
  have cB := v_callK (mc := mc) (ms := ms) hl hF hdc
  obtain ⟨hx, hb, hml, ho, hts, hE, hf1, hf2⟩ := id hF
  have hP := hH.one hn hk
  rw [ent_o hci] at hP
  obtain ⟨r, hr, hr2⟩ : ∃ r, vwCl[ci]? = some r ∧ r.1 = y.cls := by
    cases h : vwCl[ci]? with
    | none => rw [h] at hcl; cases hcl
    | some r => rw [h] at hcl; exact ⟨r, rfl, Option.some.inj hcl⟩
  have hrecv := va_recv hE.2.1 hP hr (q0 := 0) rfl
  rw [hr2] at hrecv
  refine v_callE hmc hms kk rfl hF h1 h2 hL hlv (va_runV (C := y.cls) (b := g.1 + k) (As := As) ⟨hx, hb, hml, ho, hts⟩ (hM l) ⟨cB, hts _ him, hts _ hsel⟩ ⟨pc_blind, hrecv, fun U hU hW => ⟨rfl, hE.warm hW, by rw [hU]; exact hH⟩⟩ rfl hna hlv.1 hst (lv_room (Nat.le_trans (cat_sum _) (by omega))) hd ⟨?_, ?_⟩)
  · exact Nat.le_trans (Nat.add_le_add_left hmc _) h1
  · exact Nat.le_trans (Nat.add_le_add_left hms _) h2
theorem v_callS {index na mL dc mc ms : Nat} {y : MethodName} {bytes : ByteArray} {ret : Option FieldType} {As rest : List Value} {post : Post} (hl : LkS own index y bytes mL ret na) (hM : Ct g y bytes mL ret dc mc ms As I L R N n post) (hd : decode cc pc = .ok (.invokestatic index, 3))
    (hna : As.length = na) (hst : st = As.reverse ++ rest) (hrest : rest.length ≤ 4) (hdc : dc + 1 ≤ d) (hmc : mc ≤ kr) (hms : ms ≤ sr)
    (kk : ∀ (v : Option Value) (I' : Ty) (L' : TL) (R' : TR) (N' : TN) (n' : Nat), post v I' L' R' N' n' → V g F cc own nL d (pc + 3) lv (v.toList ++ rest) I' L' R' N' n' (kr - mc) (sr - ms)) : V g F cc own nL d pc lv st I L R N n kr sr := by
  obtain ⟨hl, him⟩ := hl
  intro hF H locs ls kc ks h1 h2 hH hL hlv; obtain ⟨p, l, e, Rm, s, m, args, below, meth, c, Q⟩ := F
  have cB := v_callK (mc := mc) (ms := ms) hl hF hdc
  obtain ⟨hx, hb, hml, ho, hts, hE, hf1, hf2⟩ := id hF
  refine v_callE hmc hms kk rfl hF h1 h2 hL hlv (va_runS (As := As) ⟨hx, hb, hml, ho, hts⟩ (hM l) ⟨cB, hts _ him⟩ ⟨pc_blind, fun U hU hW => ⟨rfl, hE.warm hW, by rw [hU]; exact hH⟩⟩ rfl hna hlv.1 hst (lv_room (Nat.le_trans (cat_sum _) (by omega))) hd ⟨?_, ?_⟩)
  · exact Nat.le_trans (Nat.add_le_add_left hmc _) h1
  · exact Nat.le_trans (Nat.add_le_add_left hms _) h2
theorem v_callI {index na mL dc mc ms k : Nat} {y : MethodName} {bytes : ByteArray} {As rest : List Value} {post : Post} (hl : LkI own index y bytes mL na) (hM : Ct g y bytes mL none dc mc ms (.ref (g.1 + k) :: As) I L R N n post) (hd : decode cc pc = .ok (.invokespecial index, 3))
    (hna : As.length = na) (hst : st = As.reverse ++ .ref (g.1 + k) :: rest) (hrest : rest.length ≤ 4) (hdc : dc + 1 ≤ d) (hmc : mc ≤ kr) (hms : ms ≤ sr)
    (kk : ∀ (v : Option Value) (I' : Ty) (L' : TL) (R' : TR) (N' : TN) (n' : Nat), post v I' L' R' N' n' → V g F cc own nL d (pc + 3) lv (v.toList ++ rest) I' L' R' N' n' (kr - mc) (sr - ms)) : V g F cc own nL d pc lv st I L R N n kr sr := by
  obtain ⟨hl, hnm, him⟩ := hl
  intro hF H locs ls kc ks h1 h2 hH hL hlv; obtain ⟨p, l, e, Rm, s, m, args, below, meth, c, Q⟩ := F
  have cB := v_callK (mc := mc) (ms := ms) hl hF hdc
  obtain ⟨hx, hb, hml, ho, hts, hE, hf1, hf2⟩ := id hF
  refine v_callE hmc hms kk rfl hF h1 h2 hL hlv (va_runI (b := g.1 + k) (As := As) ⟨hx, hb, hml, ho, hts⟩ (hM l) ⟨cB, hnm, hts _ him⟩ ⟨pc_blind, fun U hU hW => ⟨rfl, hE.warm hW, by rw [hU]; exact hH⟩⟩ rfl hna hlv.1 hst (lv_room (Nat.le_trans (cat_sum _) (by omega))) hd ⟨?_, ?_⟩)
  · exact Nat.le_trans (Nat.add_le_add_left hmc _) h1
  · exact Nat.le_trans (Nat.add_le_add_left hms _) h2
/-- a contract that says all of the end -/
def Ps (v0 : Option Value) (I0 : Ty) (L0 : TL) (R0 : TR) (N0 : TN) (n0 : Nat) : Post := fun v I L R N n => v = v0 ∧ I = I0 ∧ L = L0 ∧ R = R0 ∧ N = N0 ∧ n = n0
def b01 (P : Prop) [Decidable P] : Int32 := if P then 1 else 0
theorem v_callVi {index na mL dc k ci : Nat} {y : MethodName} {bytes : ByteArray} {ret : Option FieldType} {As rest : List Value} {r : Int32} {I0 : Ty} {L0 : TL} {R0 : TR} {N0 : TN} {n0 : Nat} (hl : LkV own index y bytes mL ret na ci) (hM : Ct g y bytes mL ret dc 0 0 (.ref (g.1 + k) :: As) I L R N n (Ps (some (.int r)) I0 L0 R0 N0 n0)) (hd : decode cc pc = .ok (.invokevirtual index, 3)) (hk : kd k = ci) (hn : k < n) (hna : As.length = na) (hst : st = As.reverse ++ .ref (g.1 + k) :: rest) (hrest : rest.length ≤ 4) (hdc : dc + 1 ≤ d)
    (kk : V g F cc own nL d (pc + 3) lv (.int r :: rest) I0 L0 R0 N0 n0 kr sr) : V g F cc own nL d pc lv st I L R N n kr sr :=
  v_callV hl hM hd hk hn hna hst hrest hdc (Nat.zero_le _) (Nat.zero_le _) (fun v I' L' R' N' n' h => by obtain ⟨rfl, rfl, rfl, rfl, rfl, rfl⟩ := h; exact kk)
theorem v_callSi {index na mL dc : Nat} {y : MethodName} {bytes : ByteArray} {ret : Option FieldType} {As rest : List Value} {r : Int32} {I0 : Ty} {L0 : TL} {R0 : TR} {N0 : TN} {n0 : Nat} (hl : LkS own index y bytes mL ret na) (hM : Ct g y bytes mL ret dc 0 0 As I L R N n (Ps (some (.int r)) I0 L0 R0 N0 n0)) (hd : decode cc pc = .ok (.invokestatic index, 3)) (hna : As.length = na) (hst : st = As.reverse ++ rest) (hrest : rest.length ≤ 4) (hdc : dc + 1 ≤ d)
    (kk : V g F cc own nL d (pc + 3) lv (.int r :: rest) I0 L0 R0 N0 n0 kr sr) : V g F cc own nL d pc lv st I L R N n kr sr :=
  v_callS hl hM hd hna hst hrest hdc (Nat.zero_le _) (Nat.zero_le _) (fun v I' L' R' N' n' h => by obtain ⟨rfl, rfl, rfl, rfl, rfl, rfl⟩ := h; exact kk)
theorem v_callVl {index na mL dc k ci : Nat} {y : MethodName} {bytes : ByteArray} {ret : Option FieldType} {As rest : List Value} {r : Int64} {I0 : Ty} {L0 : TL} {R0 : TR} {N0 : TN} {n0 : Nat} (hl : LkV own index y bytes mL ret na ci) (hM : Ct g y bytes mL ret dc 0 0 (.ref (g.1 + k) :: As) I L R N n (Ps (some (.long r)) I0 L0 R0 N0 n0)) (hd : decode cc pc = .ok (.invokevirtual index, 3)) (hk : kd k = ci) (hn : k < n) (hna : As.length = na) (hst : st = As.reverse ++ .ref (g.1 + k) :: rest) (hrest : rest.length ≤ 4) (hdc : dc + 1 ≤ d)
    (kk : V g F cc own nL d (pc + 3) lv (.long r :: rest) I0 L0 R0 N0 n0 kr sr) : V g F cc own nL d pc lv st I L R N n kr sr :=
  v_callV hl hM hd hk hn hna hst hrest hdc (Nat.zero_le _) (Nat.zero_le _) (fun v I' L' R' N' n' h => by obtain ⟨rfl, rfl, rfl, rfl, rfl, rfl⟩ := h; exact kk)
theorem v_callSl {index na mL dc : Nat} {y : MethodName} {bytes : ByteArray} {ret : Option FieldType} {As rest : List Value} {r : Int64} {I0 : Ty} {L0 : TL} {R0 : TR} {N0 : TN} {n0 : Nat} (hl : LkS own index y bytes mL ret na) (hM : Ct g y bytes mL ret dc 0 0 As I L R N n (Ps (some (.long r)) I0 L0 R0 N0 n0)) (hd : decode cc pc = .ok (.invokestatic index, 3)) (hna : As.length = na) (hst : st = As.reverse ++ rest) (hrest : rest.length ≤ 4) (hdc : dc + 1 ≤ d)
    (kk : V g F cc own nL d (pc + 3) lv (.long r :: rest) I0 L0 R0 N0 n0 kr sr) : V g F cc own nL d pc lv st I L R N n kr sr :=
  v_callS hl hM hd hna hst hrest hdc (Nat.zero_le _) (Nat.zero_le _) (fun v I' L' R' N' n' h => by obtain ⟨rfl, rfl, rfl, rfl, rfl, rfl⟩ := h; exact kk)
theorem v_callVv {index na mL dc k ci : Nat} {y : MethodName} {bytes : ByteArray} {ret : Option FieldType} {As rest : List Value}  {I0 : Ty} {L0 : TL} {R0 : TR} {N0 : TN} {n0 : Nat} (hl : LkV own index y bytes mL ret na ci) (hM : Ct g y bytes mL ret dc 0 0 (.ref (g.1 + k) :: As) I L R N n (Ps none I0 L0 R0 N0 n0)) (hd : decode cc pc = .ok (.invokevirtual index, 3)) (hk : kd k = ci) (hn : k < n) (hna : As.length = na) (hst : st = As.reverse ++ .ref (g.1 + k) :: rest) (hrest : rest.length ≤ 4) (hdc : dc + 1 ≤ d)
    (kk : V g F cc own nL d (pc + 3) lv rest I0 L0 R0 N0 n0 kr sr) : V g F cc own nL d pc lv st I L R N n kr sr :=
  v_callV hl hM hd hk hn hna hst hrest hdc (Nat.zero_le _) (Nat.zero_le _) (fun v I' L' R' N' n' h => by obtain ⟨rfl, rfl, rfl, rfl, rfl, rfl⟩ := h; exact kk)
theorem v_callSv {index na mL dc : Nat} {y : MethodName} {bytes : ByteArray} {ret : Option FieldType} {As rest : List Value}  {I0 : Ty} {L0 : TL} {R0 : TR} {N0 : TN} {n0 : Nat} (hl : LkS own index y bytes mL ret na) (hM : Ct g y bytes mL ret dc 0 0 As I L R N n (Ps none I0 L0 R0 N0 n0)) (hd : decode cc pc = .ok (.invokestatic index, 3)) (hna : As.length = na) (hst : st = As.reverse ++ rest) (hrest : rest.length ≤ 4) (hdc : dc + 1 ≤ d)
    (kk : V g F cc own nL d (pc + 3) lv rest I0 L0 R0 N0 n0 kr sr) : V g F cc own nL d pc lv st I L R N n kr sr :=
  v_callS hl hM hd hna hst hrest hdc (Nat.zero_le _) (Nat.zero_le _) (fun v I' L' R' N' n' h => by obtain ⟨rfl, rfl, rfl, rfl, rfl, rfl⟩ := h; exact kk)
end
theorem uw_t {w : Cond} (h : w ∈ tables_1) (hg : goodWord w = true) : w ∈ UW := List.mem_filter.mpr ⟨List.mem_append_right _ h, hg⟩
theorem uw_s {q : MethodName × Nat} (h : q ∈ lw_privs) (hg : goodWord (Cond.selects q.1.cls q.1 q.1) = true) : Cond.selects q.1.cls q.1 q.1 ∈ UW := List.mem_filter.mpr ⟨List.mem_append_left _ (List.mem_map.mpr ⟨q, h, rfl⟩), hg⟩
theorem ltn {k m : Nat} (h : Nat.blt k NB = true) : k < NB + m := Nat.lt_of_lt_of_le (Nat.le_of_ble_eq_true h) (Nat.le_add_right _ _)

/-! the texts that the reader holds its signs against -/
def LkO (own : String) (index : Nat) (y : MethodName) (bytes : ByteArray) (mL : Nat) (ret : Option FieldType) (na : Nat) : Prop := Lk own index y bytes mL ret na ∧ Cond.instanceMethod y ∈ UW ∧ Cond.selects y.cls y y ∈ UW ∧ y.cls = "java/lang/String"
section
variable {g : Gl} {F : Fx} {cc : ByteArray} {own : String} {nL d pc : Nat} {lv : List (Nat × Value)} {st : List Value} {I : Ty} {L : TL} {R : TR} {N : TN} {n kr sr : Nat}
theorem v_getOc {i index : Nat} (hi : i < 5) (hl : Cond.fieldLink own index "java/lang/String" "coder" "B" ∈ UW) (hd : decode cc pc = .ok (.getfield index, 3)) (k : V g F cc own nL d (pc + 3) lv (.int 0 :: st) I L R N n kr sr) : V g F cc own nL d pc lv (.ref (g.2.2.2.2.1 i) :: st) I L R N n kr sr := by
  intro hF H locs ls kc ks h1 h2 hH hL hlv; obtain ⟨p, l, e, Rm, s, m, args, below, meth, c, Q⟩ := F
  obtain ⟨hx, hb, hml, ho, hts, hE, hf1, hf2⟩ := id hF
  obtain ⟨cf, kf, fi, f, cell, g1, g2, g3, g4, g5, g6⟩ := (hE.2.2.2.2.1.1 i hi).2.1
  exact W.getf hx hb ho (hts _ hl) g1 g2 (by rw [hH.low g6]; exact g3) g4 (v := .int 0) g5 rfl rfl hd (k hF H locs ls kc ks h1 h2 hH hL hlv)
theorem v_getOv {i index : Nat} (hi : i < 5) (hl : Cond.fieldLink own index "java/lang/String" "value" "[B" ∈ UW) (hd : decode cc pc = .ok (.getfield index, 3)) (k : V g F cc own nL d (pc + 3) lv (.ref (g.2.2.2.2.2 i) :: st) I L R N n kr sr) : V g F cc own nL d pc lv (.ref (g.2.2.2.2.1 i) :: st) I L R N n kr sr := by
  intro hF H locs ls kc ks h1 h2 hH hL hlv; obtain ⟨p, l, e, Rm, s, m, args, below, meth, c, Q⟩ := F
  obtain ⟨hx, hb, hml, ho, hts, hE, hf1, hf2⟩ := id hF
  obtain ⟨cf, kf, fi, f, cell, g1, g2, g3, g4, g5, g6⟩ := (hE.2.2.2.2.1.1 i hi).2.2.1
  exact W.getf hx hb ho (hts _ hl) g1 g2 (by rw [hH.low g6]; exact g3) g4 (v := .ref (g.2.2.2.2.2 i)) g5 rfl rfl hd (k hF H locs ls kc ks h1 h2 hH hL hlv)
theorem v_blen {i : Nat} (hi : i < 5) (hd : decode cc pc = .ok (.arraylength, 1)) (k : V g F cc own nL d (pc + 1) lv (.int (nI (strLen.getD i 0)) :: st) I L R N n kr sr) : V g F cc own nL d pc lv (.ref (g.2.2.2.2.2 i) :: st) I L R N n kr sr := by
  intro hF H locs ls kc ks h1 h2 hH hL hlv; obtain ⟨p, l, e, Rm, s, m, args, below, meth, c, Q⟩ := F
  obtain ⟨hx, hb, hml, ho, hts, hE, hf1, hf2⟩ := id hF
  obtain ⟨cell, g1, g2, g3, g4, g5, g6, g7⟩ := (hE.2.2.2.2.1.1 i hi).2.2.2
  exact W.alen (n := Int32.ofNat (strLen.getD i 0)) hx hb (by rw [hH.low g7]; exact g1) g2 g5 rfl rfl hd (k hF H locs ls kc ks h1 h2 hH hL hlv)
theorem v_bload {i j : Nat} {x : Int32} (hi : i < 5) (hx' : x = nI j) (hj : j < strLen.getD i 0) (hj2 : j < 2 ^ 31) (hd : decode cc pc = .ok (.baload, 1)) (k : V g F cc own nL d (pc + 1) lv (.int ((strByt.getD i []).getD j 0) :: st) I L R N n kr sr) : V g F cc own nL d pc lv (.int x :: .ref (g.2.2.2.2.2 i) :: st) I L R N n kr sr := by
  intro hF H locs ls kc ks h1 h2 hH hL hlv; obtain ⟨p, l, e, Rm, s, m, args, below, meth, c, Q⟩ := F
  obtain ⟨hx, hb, hml, ho, hts, hE, hf1, hf2⟩ := id hF
  subst hx'
  obtain ⟨cell, g1, g2, g3, g4, g5, g6, g7⟩ := (hE.2.2.2.2.1.1 i hi).2.2.2
  have e0 : (nI j).toNatClampNeg = j := nI_clamp hj2
  refine W.bald (v := .int ((strByt.getD i []).getD j 0)) hx hb (by rw [hH.low g7]; exact g1) g2 g3 ?_ (by rw [e0]; exact g6 _ hj) rfl rfl hd (k hF H locs ls kc ks h1 h2 hH hL hlv)
  intro q
  rcases q with q | q
  · exact nI_pos hj2 q
  · rw [e0] at q; omega
theorem v_compact {index : Nat} (hl : Cond.fieldLink own index "java/lang/String" "COMPACT_STRINGS" "Z" ∈ UW) (hd : decode cc pc = .ok (.getstatic index, 3)) (k : V g F cc own nL d (pc + 3) lv (.int 1 :: st) I L R N n kr sr) : V g F cc own nL d pc lv st I L R N n kr sr := by
  intro hF H locs ls kc ks h1 h2 hH hL hlv; obtain ⟨p, l, e, Rm, s, m, args, below, meth, c, Q⟩ := F
  obtain ⟨hx, hb, hml, ho, hts, hE, hf1, hf2⟩ := id hF
  obtain ⟨cf, kf, fi, f, a, cell, g1, g2, g3, g4, g5, g6, g7, g8⟩ := hE.2.2.2.2.2.2.2.2.2.2.1
  exact W.gets hx hb ho (hts _ hl) g1 g2 g3 g4 (by rw [hH.low g8]; exact g5) (fun e => by rw [e] at g6; cases g6) g7 rfl hd (k hF H locs ls kc ks h1 h2 hH hL hlv)
theorem v_formatter {index : Nat} (hl : Cond.fieldLink own index "jdk/internal/util/Preconditions" "SIOOBE_FORMATTER" "Ljava/util/function/BiFunction;" ∈ UW) (hd : decode cc pc = .ok (.getstatic index, 3)) (k : ∀ fv : Value, (fv = .null ∨ ∃ t, fv = .ref t) → V g F cc own nL d (pc + 3) lv (fv :: st) I L R N n kr sr) : V g F cc own nL d pc lv st I L R N n kr sr := by
  intro hF H locs ls kc ks h1 h2 hH hL hlv; obtain ⟨p, l, e, Rm, s, m, args, below, meth, c, Q⟩ := F
  obtain ⟨hx, hb, hml, ho, hts, hE, hf1, hf2⟩ := id hF
  rcases hE.2.2.2.2.2.2.2.2.2.2.2.1 with h | ⟨t, h⟩
  · obtain ⟨cf, kf, fi, f, a, cell, g1, g2, g3, g4, g5, g6, g7, g8⟩ := h
    exact W.gets hx hb ho (hts _ hl) g1 g2 g3 g4 (by rw [hH.low g8]; exact g5) (fun e => by rw [e] at g6; cases g6) g7 rfl hd (k _ (Or.inl rfl) hF H locs ls kc ks h1 h2 hH hL hlv)
  · obtain ⟨cf, kf, fi, f, a, cell, g1, g2, g3, g4, g5, g6, g7, g8⟩ := h
    exact W.gets hx hb ho (hts _ hl) g1 g2 g3 g4 (by rw [hH.low g8]; exact g5) (fun e => by rw [e] at g6; cases g6) g7 rfl hd (k _ (Or.inr ⟨t, rfl⟩) hF H locs ls kc ks h1 h2 hH hL hlv)
theorem v_i2c {x v : Int32} (hd : decode cc pc = .ok (.i2c, 1)) (hv : (x.toUInt32 % 65536).toInt32 = v) (k : V g F cc own nL d (pc + 1) lv (.int v :: st) I L R N n kr sr) : V g F cc own nL d pc lv (.int x :: st) I L R N n kr sr := by
  intro hF H locs ls kc ks h1 h2 hH hL hlv; obtain ⟨p, l, e, Rm, s, m, args, below, meth, c, Q⟩ := F; exact lv_i2c hF.1 hF.2.1 hd hv (k hF H locs ls kc ks h1 h2 hH hL hlv)
theorem v_callO {index na mL dc mc ms i : Nat} {y : MethodName} {bytes : ByteArray} {ret : Option FieldType} {As rest : List Value} {post : Post} (hi : i < 5) (hl : LkO own index y bytes mL ret na) (hM : Ct g y bytes mL ret dc mc ms (.ref (g.2.2.2.2.1 i) :: As) I L R N n post) (hd : decode cc pc = .ok (.invokevirtual index, 3))
    (hna : As.length = na) (hst : st = As.reverse ++ .ref (g.2.2.2.2.1 i) :: rest) (hrest : rest.length ≤ 4) (hdc : dc + 1 ≤ d) (hmc : mc ≤ kr) (hms : ms ≤ sr)
    (kk : ∀ (v : Option Value) (I' : Ty) (L' : TL) (R' : TR) (N' : TN) (n' : Nat), post v I' L' R' N' n' → V g F cc own nL d (pc + 3) lv (v.toList ++ rest) I' L' R' N' n' (kr - mc) (sr - ms)) : V g F cc own nL d pc lv st I L R N n kr sr := by
  obtain ⟨hl, him, hsel, hcl⟩ := hl
  intro hF H locs ls kc ks h1 h2 hH hL hlv; obtain ⟨p, l, e, Rm, s, m, args, below, meth, c, Q⟩ := F
  have cB := v_callK (mc := mc) (ms := ms) hl hF hdc
  obtain ⟨hx, hb, hml, ho, hts, hE, hf1, hf2⟩ := id hF
  have hrecv : ∃ cell : Cell, H[g.2.2.2.2.1 i]? = some cell ∧ cell.vm.isStatics = false ∧ s.vm.findClass y.cls = some cell.cls := by
    obtain ⟨cell, g1, g2, g3, g4⟩ := (hE.2.2.2.2.1.1 i hi).1
    exact ⟨cell, by rw [hH.low g4]; exact g1, g2, by rw [hcl]; exact g3⟩
  refine v_callE hmc hms kk rfl hF h1 h2 hL hlv (va_runV (C := y.cls) (b := g.2.2.2.2.1 i) (As := As) ⟨hx, hb, hml, ho, hts⟩ (hM l) ⟨cB, hts _ him, hts _ hsel⟩ ⟨pc_blind, hrecv, fun U hU hW => ⟨rfl, hE.warm hW, by rw [hU]; exact hH⟩⟩ rfl hna hlv.1 hst (lv_room (Nat.le_trans (cat_sum _) (by omega))) hd ⟨?_, ?_⟩)
  · exact Nat.le_trans (Nat.add_le_add_left hmc _) h1
  · exact Nat.le_trans (Nat.add_le_add_left hms _) h2
end

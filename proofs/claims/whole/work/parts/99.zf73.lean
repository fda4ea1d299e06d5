/-! the law's own rules -/
/-- the script stands since the start -/
def ScrF (g : Gl) (F : Fx) (b Ln : Nat) (xs : Nat → Int32) : Prop := va_X b Ln xs F.2.2.2.2.1 g.2.2.2.1 ∧ b < g.1 ∧ Ln ≤ 3072
section
variable {g : Gl} {F : Fx} {cc : ByteArray} {own : String} {nL d pc : Nat} {lv : List (Nat × Value)} {st : List Value} {I : Ty} {L : TL} {R : TR} {N : TN} {n kr sr : Nat} {b Ln : Nat} {xs : Nat → Int32}
theorem v_weak {kr2 sr2 : Nat} (h1 : kr2 ≤ kr) (h2 : sr2 ≤ sr) (k : V g F cc own nL d pc lv st I L R N n kr2 sr2) : V g F cc own nL d pc lv st I L R N n kr sr := fun hF H locs ls kc ks a b2 => k hF H locs ls kc ks (by omega) (by omega)
theorem v_sread {x : Int32} {j : Nat} (hX : ScrF g F b Ln xs) (hd : decode cc pc = .ok (.iaload, 1)) (hx : x = nI j) (hj : j < Ln) (k : V g F cc own nL d (pc + 1) lv (.int (xs j) :: st) I L R N n kr sr) : V g F cc own nL d pc lv (.int x :: .ref b :: st) I L R N n kr sr := by
  intro hF H locs ls kc ks h1 h2 hH hL hlv; obtain ⟨p, l, e, Rm, s, m, args, below, meth, c, Q⟩ := F
  subst hx
  obtain ⟨⟨cell, g1, g2, g3, g4, g5⟩, hb, hl⟩ := hX
  have e0 : (nI j).toNatClampNeg = j := nI_clamp (by omega)
  refine W.iald (v := .int (xs j)) hF.1 hF.2.1 (by rw [hH.2.1 b hb]; exact g1) g2 g3 ?_ (by rw [e0]; exact g5 _ hj) rfl rfl hd (k hF H locs ls kc ks h1 h2 hH hL hlv)
  intro q
  rcases q with q | q
  · exact nI_pos (by omega) q
  · rw [e0, g4] at q; omega
theorem v_slength (hX : ScrF g F b Ln xs) (hd : decode cc pc = .ok (.arraylength, 1)) (k : V g F cc own nL d (pc + 1) lv (.int (nI Ln) :: st) I L R N n kr sr) : V g F cc own nL d pc lv (.ref b :: st) I L R N n kr sr := by
  intro hF H locs ls kc ks h1 h2 hH hL hlv; obtain ⟨p, l, e, Rm, s, m, args, below, meth, c, Q⟩ := F
  obtain ⟨⟨cell, g1, g2, g3, g4, g5⟩, hb, hl⟩ := hX
  exact W.alen (n := Int32.ofNat Ln) hF.1 hF.2.1 (by rw [hH.2.1 b hb]; exact g1) g2 (by rw [g4] <;> rfl) rfl rfl hd (k hF H locs ls kc ks h1 h2 hH hL hlv)
abbrev lvL (g : Gl) (b i : Nat) : List (Nat × Value) := [(3, .int (nI i)), (2, .ref (g.1 + 65)), (1, .ref (g.1 + 0)), (0, .ref b)]
theorem v_arg {i k : Nat} {kz : Int} (hX : ScrF g F b Ln xs) (hi : i + k < Ln) (hv : Int32.ofInt kz = nI k) (h0 : decode cc pc = .ok (.aload_n 0, 1)) (h1 : decode cc (pc + 1) = .ok (.iload_n 3, 1)) (h2 : decode cc (pc + 2) = .ok (.iconst kz, 1)) (h3 : decode cc (pc + 3) = .ok (.iadd, 1)) (h4 : decode cc (pc + 4) = .ok (.iaload, 1))
    (kk : V g F cc own nL d (pc + 5) (lvL g b i) (.int (xs (i + k)) :: st) I L R N n kr sr) : V g F cc own nL d pc (lvL g b i) st I L R N n kr sr := by
  refine v_aload_n h0 rfl 3 rfl ?_
  refine v_iload_n h1 rfl 0 rfl ?_
  refine v_iconst (v := nI k) h2 hv ?_
  refine v_iadd h3 ?_
  refine v_is (nI_add i k) ?_
  exact v_sread (j := i + k) hX h4 rfl hi kk
/-- a call to both, with the arguments ahead of it -/
theorem v_both {y8 y9 : MethodName} {c8 c9 : ByteArray} {m8 d8 mc ms m9 d9 na i8 : Nat} {as : List Value} (hS : StpI g y8 c8 m8 d8 mc ms y9 c9 m9 d9 as I L R N n) (hn : NB ≤ n) (hl : LkV own i8 y8 c8 m8 (some .int) na 7) (hd : decode cc pc = .ok (.invokevirtual i8, 3)) (hna : as.length = na) (hst : st = as.reverse ++ [.ref (g.1 + 0)]) (hdc : d8 + 1 ≤ d) (kr2 sr2 : Nat) (hmc : kr = kr2 + mc) (hms : sr = sr2 + ms)
    (kk : ∀ (r : Int32) (I1 : Ty) (L1 : TL) (R1 : TR) (N1 : TN) (n1 : Nat) (post9 : Post), NB ≤ n1 → Ct g y9 c9 m9 (some .int) d9 0 0 (.ref (g.1 + 65) :: as) I1 L1 R1 N1 n1 post9 → (∀ (v2 : Option Value) (I2 : Ty) (L2 : TL) (R2 : TR) (N2 : TN) (n2 : Nat), post9 v2 I2 L2 R2 N2 n2 → v2 = some (.int r) ∧ JX I2 L2 R2 N2 n2) → V g F cc own nL d (pc + 3) lv [.int r] I1 L1 R1 N1 n1 kr2 sr2) : V g F cc own nL d pc lv st I L R N n kr sr := by
  subst hmc; subst hms
  obtain ⟨post8, h8, h9⟩ := hS
  have e : NB = 116 := rfl
  refine v_callV (rest := []) hl h8 hd rfl (by omega) hna hst (by decide) hdc (Nat.le_add_left _ _) (Nat.le_add_left _ _) (fun v I1 L1 R1 N1 n1 hp => ?_)
  obtain ⟨hn1, r, rfl, post9, hM9, hfin⟩ := h9 v I1 L1 R1 N1 n1 hp
  rw [Nat.add_sub_cancel, Nat.add_sub_cancel]
  exact kk r I1 L1 R1 N1 n1 post9 hn1 hM9 hfin
theorem v_then {y9 : MethodName} {c9 : ByteArray} {m9 d9 na i9 : Nat} {as : List Value} {r : Int32} {post9 : Post} {off : Int} {tgt : Nat} (hn : NB ≤ n) (hM : Ct g y9 c9 m9 (some .int) d9 0 0 (.ref (g.1 + 65) :: as) I L R N n post9) (hfin : ∀ (v2 : Option Value) (I2 : Ty) (L2 : TL) (R2 : TR) (N2 : TN) (n2 : Nat), post9 v2 I2 L2 R2 N2 n2 → v2 = some (.int r) ∧ JX I2 L2 R2 N2 n2) (hl : LkV own i9 y9 c9 m9 (some .int) na 8) (hd : decode cc pc = .ok (.invokevirtual i9, 3)) (hna : as.length = na) (hst : st = as.reverse ++ [.ref (g.1 + 65), .int r]) (hdc : d9 + 1 ≤ d)
    (hd2 : decode cc (pc + 3) = .ok (.if_icmp .eq off, 3)) (ht : ((pc + 3 : Nat) : Int) + off = (tgt : Int)) (kk : ∀ (I2 : Ty) (L2 : TL) (R2 : TR) (N2 : TN) (n2 : Nat), JX I2 L2 R2 N2 n2 → V g F cc own nL d tgt lv [] I2 L2 R2 N2 n2 kr sr) : V g F cc own nL d pc lv st I L R N n kr sr := by
  have e : NB = 116 := rfl
  refine v_callV (rest := [.int r]) hl hM hd rfl (by omega) hna hst (show 1 ≤ 4 by decide) hdc (Nat.zero_le _) (Nat.zero_le _) (fun v2 I2 L2 R2 N2 n2 hq => ?_)
  obtain ⟨rfl, hJ⟩ := hfin v2 I2 L2 R2 N2 n2 hq
  exact v_icmp_eq hd2 ht (fun _ => kk I2 L2 R2 N2 n2 hJ) (fun h => absurd rfl h)
theorem v_bothL {y8 y9 : MethodName} {c8 c9 : ByteArray} {m8 d8 mc ms m9 d9 na i8 : Nat} {as : List Value} (hS : StpL g y8 c8 m8 d8 mc ms y9 c9 m9 d9 as I L R N n) (hn : NB ≤ n) (hl : LkV own i8 y8 c8 m8 (some .long) na 7) (hd : decode cc pc = .ok (.invokevirtual i8, 3)) (hna : as.length = na) (hst : st = as.reverse ++ [.ref (g.1 + 0)]) (hdc : d8 + 1 ≤ d) (kr2 sr2 : Nat) (hmc : kr = kr2 + mc) (hms : sr = sr2 + ms)
    (kk : ∀ (r : Int64) (I1 : Ty) (L1 : TL) (R1 : TR) (N1 : TN) (n1 : Nat) (post9 : Post), NB ≤ n1 → Ct g y9 c9 m9 (some .long) d9 0 0 (.ref (g.1 + 65) :: as) I1 L1 R1 N1 n1 post9 → (∀ (v2 : Option Value) (I2 : Ty) (L2 : TL) (R2 : TR) (N2 : TN) (n2 : Nat), post9 v2 I2 L2 R2 N2 n2 → v2 = some (.long r) ∧ JX I2 L2 R2 N2 n2) → V g F cc own nL d (pc + 3) lv [.long r] I1 L1 R1 N1 n1 kr2 sr2) : V g F cc own nL d pc lv st I L R N n kr sr := by
  subst hmc; subst hms
  obtain ⟨post8, h8, h9⟩ := hS
  have e : NB = 116 := rfl
  refine v_callV (rest := []) hl h8 hd rfl (by omega) hna hst (by decide) hdc (Nat.le_add_left _ _) (Nat.le_add_left _ _) (fun v I1 L1 R1 N1 n1 hp => ?_)
  obtain ⟨hn1, r, rfl, post9, hM9, hfin⟩ := h9 v I1 L1 R1 N1 n1 hp
  rw [Nat.add_sub_cancel, Nat.add_sub_cancel]
  exact kk r I1 L1 R1 N1 n1 post9 hn1 hM9 hfin
theorem v_thenL {y9 : MethodName} {c9 : ByteArray} {m9 d9 na i9 : Nat} {as : List Value} {r : Int64} {post9 : Post} {off : Int} {tgt : Nat} (hn : NB ≤ n) (hM : Ct g y9 c9 m9 (some .long) d9 0 0 (.ref (g.1 + 65) :: as) I L R N n post9) (hfin : ∀ (v2 : Option Value) (I2 : Ty) (L2 : TL) (R2 : TR) (N2 : TN) (n2 : Nat), post9 v2 I2 L2 R2 N2 n2 → v2 = some (.long r) ∧ JX I2 L2 R2 N2 n2) (hl : LkV own i9 y9 c9 m9 (some .long) na 8) (hd : decode cc pc = .ok (.invokevirtual i9, 3)) (hna : as.length = na) (hst : st = as.reverse ++ [.ref (g.1 + 65), .long r]) (hdc : d9 + 1 ≤ d)
    (hd1 : decode cc (pc + 3) = .ok (.lcmp, 1)) (hd2 : decode cc (pc + 4) = .ok (.ifCond .eq off, 3)) (ht : ((pc + 4 : Nat) : Int) + off = (tgt : Int)) (kk : ∀ (I2 : Ty) (L2 : TL) (R2 : TR) (N2 : TN) (n2 : Nat), JX I2 L2 R2 N2 n2 → V g F cc own nL d tgt lv [] I2 L2 R2 N2 n2 kr sr) : V g F cc own nL d pc lv st I L R N n kr sr := by
  have e : NB = 116 := rfl
  refine v_callV (rest := [.long r]) hl hM hd rfl (by omega) hna hst (show 1 ≤ 4 by decide) hdc (Nat.zero_le _) (Nat.zero_le _) (fun v2 I2 L2 R2 N2 n2 hq => ?_)
  obtain ⟨rfl, hJ⟩ := hfin v2 I2 L2 R2 N2 n2 hq
  refine v_lcmp hd1 ?_
  exact v_if_eq hd2 ht (fun _ => kk I2 L2 R2 N2 n2 hJ) (fun h => absurd ((lcmp0 r r).mpr rfl) h)
theorem JX_n (h : JX I L R N n) : NB ≤ n := by
  obtain ⟨na, nt, ni, c, nl, pp, hh, rfl, rfl, rfl, _⟩ := h
  exact Nat.le_add_right _ _
end

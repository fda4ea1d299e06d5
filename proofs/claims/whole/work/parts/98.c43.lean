/-! making objects -/
theorem Hp.grow {g : Gl} {I I2 : Ty} {L L2 : TL} {R R2 : TR} {N N2 : TN} {n : Nat} {H H1 : Heap} (h : Hp g I L R N n H) (z : H1.size = g.1 + n + 1) (o : ∀ q, q < g.1 + n → H1[q]? = H[q]?) (hw : ∀ k, k < n → I2 k = I k ∧ L2 k = L k ∧ R2 k = R k ∧ N2 k = N k)
    (he : va_at g.2.1 vwCl (g.1 + n, ent g (I2 n) (L2 n) (R2 n) (N2 n) (kd n)) H1) : Hp g I2 L2 R2 N2 (n + 1) H1 := by
  refine ⟨z, fun q hq => (o q (by omega)).trans (h.2.1 q hq), fun j hj => ?_⟩
  by_cases e : j = n
  · subst e; exact he
  · obtain ⟨a, b, c, d⟩ := hw j (by omega)
    rw [a, b, c, d]; exact (h.2.2 j (by omega)).kept (o _ (by show g.1 + j < g.1 + n; omega))
def Nk (own : String) (index ci M : Nat) : Prop := ∃ (C : String) (T : u_T) (ty0 : Nat → FieldType), vwCl[ci]? = some (C, T, M) ∧ Cond.classLink own index C ∈ UW ∧ Cond.instantiable C M ∈ UW ∧ Cond.initialized C ∈ UW ∧ (∀ w ∈ u_ws C T M, w ∈ UW) ∧ (∀ k, k < M → parseFieldDescriptor (T k).2.2.1 = some (ty0 k)) ∧ (∀ b0 j, j < M → defaultValue (ty0 j) = vp_V (fld b0 (fun _ => 0) (fun _ => none) ci) j)
def Pf (own : String) (index ci j : Nat) (ty : FieldType) : Prop := ∃ (C : String) (T : u_T) (M : Nat) (ty0 : Nat → FieldType), vwCl[ci]? = some (C, T, M) ∧ j < M ∧ Cond.fieldLink own index (T j).1 (T j).2.1 (T j).2.2.1 ∈ UW ∧ (∀ w ∈ u_ws C T M, w ∈ UW) ∧ (∀ k, k < M → parseFieldDescriptor (T k).2.2.1 = some (ty0 k)) ∧ (∀ a, a < M → ∀ b, b < M → a ≠ b → (T a).2.1 ≠ (T b).2.1) ∧ (T j).2.2.2 = true ∧ (T j).1 = own ∧ parseFieldDescriptor (T j).2.2.1 = some ty
theorem arr_cls {U : State} {a b : ClassId} {s : String} (h1 : U.vm.findClass s = some a) (h2 : U.vm.findClass s = some b) : a = b := Option.some.inj (h1.symm.trans h2)
section
variable {g : Gl} {F : Fx} {cc : ByteArray} {own : String} {nL d pc : Nat} {lv : List (Nat × Value)} {st : List Value} {I I2 : Ty} {L L2 : TL} {R R2 : TR} {N N2 : TN} {n kr sr : Nat}
theorem v_world (hw : ∀ k, k < n → I2 k = I k ∧ L2 k = L k ∧ R2 k = R k ∧ N2 k = N k) (k : V g F cc own nL d pc lv st I2 L2 R2 N2 n kr sr) : V g F cc own nL d pc lv st I L R N n kr sr := by
  intro hF H locs ls kc ks h1 h2 hH hL hl
  exact k hF H locs ls kc ks h1 h2 ⟨hH.1, hH.2.1, fun j hj => by obtain ⟨a, b, c, d⟩ := hw j hj; rw [a, b, c, d]; exact hH.2.2 j hj⟩ hL hl
theorem v_newo {index ci M : Nat} (ha : Nk own index ci M) (hd : decode cc pc = .ok (.new index, 3)) (hk : kd n = ci) (hc : ci < 9) (hI : I2 n = fun _ => 0) (hR : R2 n = fun _ => none) (hw : ∀ k, k < n → I2 k = I k ∧ L2 k = L k ∧ R2 k = R k ∧ N2 k = N k) (hkr : 1 ≤ kr) (hsr : M ≤ sr)
    (kk : V g F cc own nL d (pc + 3) lv (.ref (g.1 + n) :: st) I2 L2 R2 N2 (n + 1) (kr - 1) (sr - M)) : V g F cc own nL d pc lv st I L R N n kr sr := by
  intro hF H locs ls kc ks h1 h2 hH hL hl; obtain ⟨p, l, e, Rm, s, m, args, below, meth, c, Q⟩ := F
  obtain ⟨C, T, ty0, hC, hcl, hins, hini, hin, hty, hdef⟩ := ha
  have hts := hF.2.2.2.2.1
  have hKn := hF.2.2.2.2.2.1.2.1.1 ci _ hC
  have h1 : kc + kr ≤ Rm.cells := h1
  have h2 : ks + sr ≤ Rm.slots := h2
  refine W.newcK hF.1 hF.2.1 hF.2.2.2.1 (hts _ hcl) (hts _ hins) (hts _ hini) rfl hd (by omega) (by omega) hKn.2.1 hH.1 fun H1 kC hkC e1 z1 o1 => ?_
  refine kk hF H1 locs ls (kc + 1) (ks + M) (by show kc + 1 + (kr - 1) ≤ Rm.cells; omega) (by show ks + M + (sr - M) ≤ Rm.slots; omega) (hH.grow z1 o1 hw ?_) hL hl
  rw [hk, ent_o hc, hI, hR]
  exact ⟨_, hC, (u_born ty0 hts hin hKn hkC e1 hty).to (fun j hj => hdef g.1 j hj)⟩
theorem v_newi {x : Int32} {len : Nat} (ha : Cond.arrayClass (newarray.typeOf .int) ∈ UW) (hd : decode cc pc = .ok (.newarray .int, 2)) (hk : kd n = 9) (hx : x = nI len) (hlen : len < 2 ^ 26) (hN : N2 n = len) (hI : I2 n = fun _ => 0) (hw : ∀ k, k < n → I2 k = I k ∧ L2 k = L k ∧ R2 k = R k ∧ N2 k = N k) (hkr : 1 ≤ kr) (hsr : len ≤ sr)
    (kk : V g F cc own nL d (pc + 2) lv (.ref (g.1 + n) :: st) I2 L2 R2 N2 (n + 1) (kr - 1) (sr - len)) : V g F cc own nL d pc lv (.int x :: st) I L R N n kr sr := by
  intro hF H locs ls kc ks h1 h2 hH hL hl; obtain ⟨p, l, e, Rm, s, m, args, below, meth, c, Q⟩ := F
  subst hx
  have hts := hF.2.2.2.2.1
  have hK := hF.2.2.2.2.2.1.2.1.2 0 _ rfl
  have h1 : kc + kr ≤ Rm.cells := h1
  have h2 : ks + sr ≤ Rm.slots := h2
  refine va_newaK (N := len) hF.1 hF.2.1 (hts _ ha) rfl hd rfl (nI_pos (by omega)) (tn_nI (by omega)) (Nat.le_trans (Nat.mul_le_mul_left len (show componentBytes (newarray.typeOf .int) ≤ 8 by decide)) (by omega)) (by omega) (by omega) hH.1 fun H1 cA e1 z1 o1 hAr hNm => ?_
  have hcA : cA = g.2.2.1.1 := arr_cls hNm hK.2
  subst hcA
  refine kk hF H1 locs ls (kc + 1) (ks + len) (by show kc + 1 + (kr - 1) ≤ Rm.cells; omega) (by show ks + len + (sr - len) ≤ Rm.slots; omega) (hH.grow z1 o1 hw ?_) hL hl
  rw [hk, hN, hI, ent_i]
  exact e1
theorem v_newl {x : Int32} {len : Nat} (ha : Cond.arrayClass (newarray.typeOf .long) ∈ UW) (hd : decode cc pc = .ok (.newarray .long, 2)) (hk : kd n = 10) (hx : x = nI len) (hlen : len < 2 ^ 26) (hN : N2 n = len) (hI : L2 n = fun _ => 0) (hw : ∀ k, k < n → I2 k = I k ∧ L2 k = L k ∧ R2 k = R k ∧ N2 k = N k) (hkr : 1 ≤ kr) (hsr : len ≤ sr)
    (kk : V g F cc own nL d (pc + 2) lv (.ref (g.1 + n) :: st) I2 L2 R2 N2 (n + 1) (kr - 1) (sr - len)) : V g F cc own nL d pc lv (.int x :: st) I L R N n kr sr := by
  intro hF H locs ls kc ks h1 h2 hH hL hl; obtain ⟨p, l, e, Rm, s, m, args, below, meth, c, Q⟩ := F
  subst hx
  have hts := hF.2.2.2.2.1
  have hK := hF.2.2.2.2.2.1.2.1.2 1 _ rfl
  have h1 : kc + kr ≤ Rm.cells := h1
  have h2 : ks + sr ≤ Rm.slots := h2
  refine va_newaK (N := len) hF.1 hF.2.1 (hts _ ha) rfl hd rfl (nI_pos (by omega)) (tn_nI (by omega)) (Nat.le_trans (Nat.mul_le_mul_left len (show componentBytes (newarray.typeOf .long) ≤ 8 by decide)) (by omega)) (by omega) (by omega) hH.1 fun H1 cA e1 z1 o1 hAr hNm => ?_
  have hcA : cA = g.2.2.1.2.1 := arr_cls hNm hK.2
  subst hcA
  refine kk hF H1 locs ls (kc + 1) (ks + len) (by show kc + 1 + (kr - 1) ≤ Rm.cells; omega) (by show ks + len + (sr - len) ≤ Rm.slots; omega) (hH.grow z1 o1 hw ?_) hL hl
  rw [hk, hN, hI, ent_l]
  exact e1
theorem v_newz {x : Int32} {len : Nat} (ha : Cond.arrayClass (newarray.typeOf .boolean) ∈ UW) (hd : decode cc pc = .ok (.newarray .boolean, 2)) (hk : kd n = 11) (hx : x = nI len) (hlen : len < 2 ^ 26) (hN : N2 n = len) (hI : I2 n = fun _ => 0) (hw : ∀ k, k < n → I2 k = I k ∧ L2 k = L k ∧ R2 k = R k ∧ N2 k = N k) (hkr : 1 ≤ kr) (hsr : len ≤ sr)
    (kk : V g F cc own nL d (pc + 2) lv (.ref (g.1 + n) :: st) I2 L2 R2 N2 (n + 1) (kr - 1) (sr - len)) : V g F cc own nL d pc lv (.int x :: st) I L R N n kr sr := by
  intro hF H locs ls kc ks h1 h2 hH hL hl; obtain ⟨p, l, e, Rm, s, m, args, below, meth, c, Q⟩ := F
  subst hx
  have hts := hF.2.2.2.2.1
  have hK := hF.2.2.2.2.2.1.2.1.2 2 _ rfl
  have h1 : kc + kr ≤ Rm.cells := h1
  have h2 : ks + sr ≤ Rm.slots := h2
  refine va_newaK (N := len) hF.1 hF.2.1 (hts _ ha) rfl hd rfl (nI_pos (by omega)) (tn_nI (by omega)) (Nat.le_trans (Nat.mul_le_mul_left len (show componentBytes (newarray.typeOf .boolean) ≤ 8 by decide)) (by omega)) (by omega) (by omega) hH.1 fun H1 cA e1 z1 o1 hAr hNm => ?_
  have hcA : cA = g.2.2.1.2.2.1 := arr_cls hNm hK.2
  subst hcA
  refine kk hF H1 locs ls (kc + 1) (ks + len) (by show kc + 1 + (kr - 1) ≤ Rm.cells; omega) (by show ks + len + (sr - len) ≤ Rm.slots; omega) (hH.grow z1 o1 hw ?_) hL hl
  rw [hk, hN, hI, ent_z]
  exact e1
theorem v_newr {index : Nat} {x : Int32} {len : Nat} (hcl : Cond.classLink own index RX6 ∈ UW) (hd : decode cc pc = .ok (.anewarray index, 3)) (hk : kd n = 12) (hx : x = nI len) (hlen : len < 2 ^ 26) (hN : N2 n = len) (hR : R2 n = fun _ => none) (hw : ∀ k, k < n → I2 k = I k ∧ L2 k = L k ∧ R2 k = R k ∧ N2 k = N k) (hkr : 1 ≤ kr) (hsr : len ≤ sr)
    (kk : V g F cc own nL d (pc + 3) lv (.ref (g.1 + n) :: st) I2 L2 R2 N2 (n + 1) (kr - 1) (sr - len)) : V g F cc own nL d pc lv (.int x :: st) I L R N n kr sr := by
  intro hF H locs ls kc ks h1 h2 hH hL hl; obtain ⟨p, l, e, Rm, s, m, args, below, meth, c, Q⟩ := F
  subst hx
  have hts := hF.2.2.2.2.1
  obtain ⟨-, kA0, comp0, -, -, -, hnm⟩ := hF.2.2.2.2.2.1.2.1.2 3 _ rfl
  have h1 : kc + kr ≤ Rm.cells := h1
  have h2 : ks + sr ≤ Rm.slots := h2
  have hz : (nI len).toNatClampNeg = len := tn_nI (by omega)
  refine W.anew hF.1 hF.2.1 hF.2.2.2.1 (hts _ hcl) (va_AO.use hF.2.2.2.2.2.1.2.2.2.2.2.2.2.2.2.2.2.2.1) rfl hd rfl (nI_pos (by omega)) (by rw [hz]; omega) (by omega) (by rw [hz]; omega) fun cA kA comp f1 f2 f3 f4 => ?_
  have hcA : cA = g.2.2.1.2.2.2 := arr_cls f1 hnm
  subst hcA
  rw [hz]
  have hsz := hH.1
  show W p l e Rm s m args below meth c _ locs _ _ Q (F0 m (pc + 3) ls (.ref H.size :: st))
  rw [hsz]
  refine kk hF _ locs ls (kc + 1) (ks + len) (by show kc + 1 + (kr - 1) ≤ Rm.cells; omega) (by show ks + len + (sr - len) ≤ Rm.slots; omega) (hH.grow (by rw [Array.size_push, hsz]) (fun q hq => by rw [Array.getElem?_push, if_neg (by omega)]) hw ?_) hL hl
  rw [hk, hN, hR, ent_r]
  show (H.push _)[g.1 + n]? = some (vp_cell _ _)
  rw [← hsz, Array.getElem?_push_size, vp_cell_q, ← arrV_new]
  rfl
theorem v_putFC {index ci j k : Nat} {ty : FieldType} {v : Value} (ha : Pf own index ci j ty) (hnm : F.2.2.2.2.2.2.2.2.1.name = "<init>") (hd : decode cc pc = .ok (.putfield index, 3)) (hk : kd k = ci) (hc : ci < 9) (hn : k < n) (hnr : narrow ty v = v) (hfit : fits ty v = true) (hl9 : j < (fld g.1 (I k) (R k) ci).length)
    (hI : ∀ a, a ≠ k → I2 a = I a) (hR : ∀ a, a ≠ k → R2 a = R a) (hv : (fld g.1 (I k) (R k) ci).set j v = fld g.1 (I2 k) (R2 k) ci) (kk : V g F cc own nL d (pc + 3) lv st I2 L R2 N n kr sr) : V g F cc own nL d pc lv (v :: .ref (g.1 + k) :: st) I L R N n kr sr := by
  obtain ⟨C, T, M, ty0, hC, hj, hlk, hin, hty, hnms, hfin, hdecl, hdd⟩ := ha
  intro hF H locs ls kc ks h1 h2 hH hL hl; obtain ⟨p, l, e, Rm, s, m, args, below, meth, c, Q⟩ := F
  have hat := hH.2.2 k hn
  rw [hk, ent_o hc] at hat
  have hK := hF.2.2.2.2.2.1.2.1
  have hap := va_apart (own := own) hF.2.2.2.2.1 hin ty0 hty hnms hK hC
  obtain ⟨r, g1, cell, q1, q2, q3, q4⟩ := hat
  have hr : r = (C, T, M) := Option.some.inj (g1.symm.trans hC)
  subst hr
  obtain ⟨hS, hfc, kC, hkC, hkind⟩ := hK.1 ci _ hC
  obtain ⟨cf, kf, fi, f, hi, hsl⟩ := hS j hj
  have hlay := hF.2.2.2.2.1 _ (hin _ (u_in_lay hj))
  unfold u_lay at hlay
  rw [if_pos hfin] at hlay
  have hst := (u_facts hfc hkC (u_lays hF.2.2.2.2.1 hin hj) hi).1
  have hcf : m.cls = cf := by
    obtain ⟨_, _, c', _, _, _, -, -, hf', -, -, -, hown2, -⟩ := Cond.laysFinal_spec hlay
    have e1 : c' = cf := by have := hi.symm.trans hf'; simp at this; exact this.1.symm
    rw [hdecl] at hown2
    rw [← e1]; exact Option.some.inj (hF.2.2.2.1.symm.trans hown2)
  have h6 := u_fits hfc hkC hkind (Or.inr hlay) hi hdd hnr hfit
  refine W.putFinK hF.1 hF.2.1 hF.2.2.2.1 (hF.2.2.2.2.1 _ hlk) hi hst hcf hnm (by rw [q2]; exact h6) q1 q3 (by rw [hsl]; exact k2_hasslot (q4 j hj)) rfl rfl hd fun H' e1 e2 e3 => ?_
  rw [hsl] at e1 ⊢
  refine kk hF H' _ ls kc ks h1 h2 (hH.set hn e2 e3 hI (fun _ _ => rfl) hR (fun _ _ => rfl) ?_) (fun q hq => ?_) hl
  · rw [hk, ent_o hc, ← hv]
    exact ⟨_, hC, t_OB.to (V := updV (vp_V (fld g.1 (I k) (R k) ci)) j v) ⟨_, e1, q2, q3, t_set q4 hap hj v⟩ (fun i _ => vp_updV_set hl9 v i)⟩
  · rcases List.mem_append.mp hq with h | h
    · exact hL q h
    · rw [List.mem_singleton.mp h]; exact Nat.le_add_right _ _
theorem v_putFi {index ci j k : Nat} {x : Int32} (ha : Pf own index ci j .int) (hnm : F.2.2.2.2.2.2.2.2.1.name = "<init>") (hd : decode cc pc = .ok (.putfield index, 3)) (hk : kd k = ci) (hc : ci < 9) (hn : k < n) (hl9 : j < (fld g.1 (I k) (R k) ci).length) (hv : (fld g.1 (I k) (R k) ci).set j (.int x) = fld g.1 (va_up (I k) j x) (R k) ci)
    (kk : V g F cc own nL d (pc + 3) lv st (va_up I k (va_up (I k) j x)) L R N n kr sr) : V g F cc own nL d pc lv (.int x :: .ref (g.1 + k) :: st) I L R N n kr sr :=
  v_putFC ha hnm hd hk hc hn rfl rfl hl9 up_ne (fun _ _ => rfl) (by rw [up_eq]; exact hv) kk
theorem v_putFr {index ci j k t : Nat} {ty : FieldType} (ha : Pf own index ci j ty) (hty : narrow ty (.ref (g.1 + t)) = .ref (g.1 + t) ∧ fits ty (.ref (g.1 + t)) = true) (hnm : F.2.2.2.2.2.2.2.2.1.name = "<init>") (hd : decode cc pc = .ok (.putfield index, 3)) (hk : kd k = ci) (hc : ci < 9) (hn : k < n) (hl9 : j < (fld g.1 (I k) (R k) ci).length) (hv : (fld g.1 (I k) (R k) ci).set j (.ref (g.1 + t)) = fld g.1 (I k) (va_up (R k) j (some t)) ci)
    (kk : V g F cc own nL d (pc + 3) lv st I L (va_up R k (va_up (R k) j (some t))) N n kr sr) : V g F cc own nL d pc lv (.ref (g.1 + t) :: .ref (g.1 + k) :: st) I L R N n kr sr :=
  v_putFC ha hnm hd hk hc hn hty.1 hty.2 hl9 (fun _ _ => rfl) up_ne (by rw [up_eq]; exact hv) kk
theorem v_aastore {k j len t : Nat} {x : Int32} (hd : decode cc pc = .ok (.aastore, 1)) (hk : kd k = 12) (hn : k < n) (ht : kd t = 6) (htn : t < n) (hN : N k = len) (hlen : len < 2 ^ 31) (hx : x = nI j) (hj : j < len) (kk : V g F cc own nL d (pc + 1) lv st I L (va_up R k (va_up (R k) j (some t))) N n kr sr) : V g F cc own nL d pc lv (.ref (g.1 + t) :: .int x :: .ref (g.1 + k) :: st) I L R N n kr sr := by
  intro hF H locs ls kc ks h1 h2 hH hL hl; obtain ⟨p, l, e, Rm, s, m, args, below, meth, c, Q⟩ := F
  subst hx
  have hP := hH.2.2 k hn
  rw [hk, hN, ent_r] at hP
  have hT := hH.2.2 t htn
  rw [ht, ent_o (by decide)] at hT
  obtain ⟨r', hr', cellV, g1, g2, g3, -⟩ := hT
  have hK := hF.2.2.2.2.2.1.2.1
  have hcls := (hK.1 6 _ rfl).2
  have hA := hK.2 3 _ rfl
  obtain ⟨kA, comp, k1, k2, k3, -⟩ := hA.2
  have hcomp : comp = g.2.1.1 6 := Option.some.inj (k3.symm.trans hcls.1)
  subst hcomp
  obtain ⟨kC, hkC, -⟩ := hcls.2
  refine W.aast hF.1 hF.2.1 hP (fun q h => by cases h) (fun h => by cases h) k1 k2 rfl hkC ⟨nI_pos (by omega), by show _ < (arrV _ _ _).slots.size; rw [arrV_size, nI_cl hj hlen]; exact hj⟩ g1 (fun q h => by rw [g3] at h; cases h) (by rw [g2]; exact hkC) (by rw [g2]; exact va_assign hcls) rfl rfl hd fun H1 e1 e2 e3 => ?_
  rw [nI_cl hj hlen] at e1 ⊢
  refine kk hF H1 _ ls kc ks h1 h2 (hH.set hn e2 e3 (fun _ _ => rfl) (fun _ _ => rfl) up_ne (fun _ _ => rfl) ?_) (fun q hq => ?_) hl
  · rw [hk, hN, ent_r, up_eq]
    show H1[g.1 + k]? = some (vp_cell _ _)
    rw [e1, vp_cell_q, vp_cell_q, arrV_store]
    congr 2
    funext q
    by_cases hq : q = j
    · subst hq; simp [updV, va_up, va_rf]
    · simp [updV, va_up, hq]
  · rcases List.mem_append.mp hq with h | h
    · exact hL q h
    · rw [List.mem_singleton.mp h]; exact Nat.le_add_right _ _
theorem v_obj {index k : Nat} (hlk : Cond.methodLink own index Lib.objectInit ∈ UW) (him : Cond.instanceMethod Lib.objectInit ∈ UW) (hco : Cond.code Lib.objectInit ⟨#[0xb1]⟩ 1 none ∈ UW) (hd : decode cc pc = .ok (.invokespecial index, 3)) (hd1 : 1 ≤ d) (hst : st.length ≤ 4) (kk : V g F cc own nL d (pc + 3) lv st I L R N n kr sr) : V g F cc own nL d pc lv (.ref (g.1 + k) :: st) I L R N n kr sr := by
  intro hF H locs ls kc ks h1 h2 hH hL hl; obtain ⟨p, l, e, Rm, s, m, args, below, meth, c, Q⟩ := F
  have hts := hF.2.2.2.2.1
  have hf1 : d ≤ Rm.frames := hF.2.2.2.2.2.2.1
  have hf2 : 60 * d ≤ Rm.locals := hF.2.2.2.2.2.2.2
  have hcat := cat_sum st
  refine W.objInit hF.1 hF.2.1 hF.2.2.2.1 (hts _ hlk) (hts _ him) (hts _ hco) rfl (hl.1.trans hF.2.2.1.symm) rfl hd (Nat.le_trans hd1 hf1) ?_ (kk hF H locs ls kc ks h1 h2 hH hL hl)
  show 2 * 0 + (st.map fun v => v.category).sum + 12 ≤ Rm.locals
  omega

/-- the reader's own constructor, private: the class's constructor calls it as a mate -/
theorem v_callN {dc mc ms k : Nat} {rest : List Value} {post : Post} (hco : Cond.code yX4_init cX4_init 1 none ∈ UW) (hini : Cond.initialized RX4 ∈ UW) (him : Cond.instanceMethod yX4_init ∈ UW) (ho8 : own = RX8) (hM : Ct g yX4_init cX4_init 1 none dc mc ms [.ref (g.1 + k)] I L R N n post) (hd : decode cc pc = .ok (.invokespecial 23, 3))
    (hst : st = .ref (g.1 + k) :: rest) (hrest : rest.length ≤ 4) (hdc : dc + 1 ≤ d) (hmc : mc ≤ kr) (hms : ms ≤ sr)
    (kk : ∀ (v : Option Value) (I' : Ty) (L' : TL) (R' : TR) (N' : TN) (n' : Nat), post v I' L' R' N' n' → V g F cc own nL d (pc + 3) lv (v.toList ++ rest) I' L' R' N' n' (kr - mc) (sr - ms)) : V g F cc own nL d pc lv st I L R N n kr sr := by
  intro hF H locs ls kc ks h1 h2 hH hL hlv; obtain ⟨p, l, e, Rm, s, m, args, below, meth, c, Q⟩ := F
  obtain ⟨hx, hb, hml, ho, hts, hE, hf1, hf2⟩ := id hF
  subst ho8
  have hf1 : d ≤ Rm.frames := hf1
  have hf2 : 60 * d ≤ Rm.locals := hf2
  have cB : va_CN Rm s args RX8 23 yX4_init RX8 cX4_init 1 none (Cond.code yX4_init cX4_init 1 none :: UW) (rmD dc mc ms) mc ms 0 :=
    ⟨⟨rfl, rfl, Nat.le_trans hdc hf1, Nat.le_trans (by show 8 + (1 + 11) + 60 * dc ≤ 60 * d; omega) hf2, pay_in hts (uw_in hco), List.mem_cons_self⟩, hts _ hco, hts _ hini, ⟨by decide +kernel, by decide +kernel⟩, fun sig h => by
      have hp : (parseMethodDescriptor yX4_init.desc).map (fun d => d.parameters.length) = some 0 := by decide +kernel
      rw [h] at hp; exact (Option.some.inj hp).symm, va_Nw.use rfl hE.2.2.2.2.2.2.2.2.2.2.2.2.2⟩
  refine v_callE hmc hms kk rfl hF h1 h2 hL hlv (va_runIN (b := g.1 + k) (As := []) ⟨hx, hb, hml, ho, hts⟩ (hM l) ⟨cB, rfl, hts _ him⟩ ⟨pc_blind, fun U hU hW => ⟨rfl, hE.warm hW, by rw [hU]; exact hH⟩⟩ rfl rfl hlv.1 hst (lv_room (Nat.le_trans (cat_sum _) (by omega))) hd ⟨?_, ?_⟩)
  · exact Nat.le_trans (Nat.add_le_add_left hmc _) h1
  · exact Nat.le_trans (Nat.add_le_add_left hms _) h2
end

theorem arrV_ext (cI : ClassId) {N : Nat} {f h : Nat → Value} (e : ∀ j, j < N → f j = h j) : arrV cI N f = arrV cI N h := by
  unfold arrV
  congr 2
  funext j; exact e j.1 j.2
def ArLk (own : String) (index : Nat) : Prop := Cond.methodLink own index arraycopyName ∈ UW ∧ Cond.native arraycopyName ∈ UW ∧ Cond.static arraycopyName ∈ UW ∧ Cond.initialized "java/lang/System" ∈ UW
section
variable {g : Gl} {F : Fx} {cc : ByteArray} {own : String} {nL d pc : Nat} {lv : List (Nat × Value)} {st : List Value} {I : Ty} {L : TL} {R : TR} {N : TN} {n kr sr : Nat}
theorem v_copyi {a0 b0 n0 n1 sp dp nn index : Nat} {J : Nat → Int32} (hlk : ArLk own index) (hd : decode cc pc = .ok (.invokestatic index, 3)) (ka : kd a0 = 9) (la : a0 < n) (na : N a0 = n0) (kb : kd b0 = 9) (lb : b0 < n) (nb_ : N b0 = n1) (h1 : sp + nn ≤ n0) (h2 : dp + nn ≤ n1) (h0 : n0 < 2 ^ 31) (h01 : n1 < 2 ^ 31) (hd1 : 1 ≤ d) (hst : st.length ≤ 4)
    (hJ : ∀ j, j < n1 → J j = va_cpy (I a0) (I b0) sp dp nn j)
    (k : V g F cc own nL d (pc + 3) lv st (va_up I b0 J) L R N n kr sr) : V g F cc own nL d pc lv (.int (nI nn) :: .int (nI dp) :: .ref (g.1 + b0) :: .int (nI sp) :: .ref (g.1 + a0) :: st) I L R N n kr sr := by
  obtain ⟨hlink, hnat, hstat, hini⟩ := hlk
  intro hF H locs ls kc ks q1 q2 hH hL hlv; obtain ⟨p, l, e, Rm, s, m, args, below, meth, c, Q⟩ := F
  obtain ⟨hx, hb, hml, ho, hts, hE, hf1, hf2⟩ := id hF
  have hcs := cat_sum st
  have hc0 := hH.2.2 a0 la
  have hc1 := hH.2.2 b0 lb
  rw [ka, na, ent_i] at hc0
  rw [kb, nb_, ent_i] at hc1
  have hc0 : H[g.1 + a0]? = some (vp_cell g.2.2.1.1 (n0, .inl (I a0))) := hc0
  have hc1 : H[g.1 + b0]? = some (vp_cell g.2.2.1.1 (n1, .inl (I b0))) := hc1
  have hK := (hE.2.1.2 0 _ rfl).1
  intro T hT X
  obtain ⟨-, k0, hk0, cm0, hkk0⟩ := hK n0 (fun j => .int (I a0 j))
  obtain ⟨-, k1, hk1, cm1, hkk1⟩ := hK n1 (fun j => .int (I b0 j))
  have e0 : (nI sp).toNatClampNeg = sp := nI_clamp (by omega)
  have e1 : (nI dp).toNatClampNeg = dp := nI_clamp (by omega)
  have e2 : (nI nn).toNatClampNeg = nn := nI_clamp (by omega)
  have hw : nativeFrameWords "java/lang/System" "arraycopy" 5 ≤ 24 := by decide
  obtain ⟨vm', X', step⟩ := X.arraycopy hx ho (hts _ hlink) (hts _ hnat) (hts _ hstat) (hts _ hini) (src := g.1 + a0) (dst := g.1 + b0) (cs := (vp_cell g.2.2.1.1 (n0, .inl (I a0)))) (cd := (vp_cell g.2.2.1.1 (n1, .inl (I b0)))) (srcPos := nI sp) (destPos := nI dp) (n := nI nn) (by rw [hT]; exact hc0) (by rw [hT]; exact hc1)
    (fun _ h => by cases h) (fun _ h => by cases h) (fun h => by cases h) (fun h => by cases h) hk0 hk1 hkk0 hkk1 rfl (nI_pos (by omega)) (nI_pos (by omega)) (nI_pos (by omega))
    (by rw [nI_toInt (by omega), nI_toInt (by omega)]; show ¬ _ > ((arrV g.2.2.1.1 n0 (fun j => .int (I a0 j))).slots.size : Int); rw [arrV_size]; omega)
    (by rw [nI_toInt (by omega), nI_toInt (by omega)]; show ¬ _ > ((arrV g.2.2.1.1 n1 (fun j => .int (I b0 j))).slots.size : Int); rw [arrV_size]; omega)
    (fun vm₁ _ i hi => by
      rw [e2] at hi
      have e : ((vp_cell g.2.2.1.1 (n0, .inl (I a0)))).slots.getD ((nI sp).toNatClampNeg + i) .null = .int (I a0 (sp + i)) := by
        rw [e0]
        show (arrV g.2.2.1.1 n0 (fun j => .int (I a0 j))).slots.getD _ _ = _
        rw [Array.getD_eq_getD_getElem?, arrV_read _ _ (by omega)]
        rfl
      refine ⟨?_, ?_⟩
      · rw [e]; rfl
      · rw [e]; exact trivial)
    (g := F0 m pc ls (.int (nI nn) :: .int (nI dp) :: .ref (g.1 + b0) :: .int (nI sp) :: .ref (g.1 + a0) :: st)) rfl (by show ls.size = _; rw [hml]; exact hlv.1) (rest := st) rfl (by rw [hb]; exact hd) (by show 1 ≤ Rm.frames; omega) (by show 2 * 0 + _ + (nativeFrameWords "java/lang/System" "arraycopy" 5 + 11) ≤ Rm.locals; omega)
  have e3 : copied (vp_cell g.2.2.1.1 (n0, .inl (I a0))) (vp_cell g.2.2.1.1 (n1, .inl (I b0))) (nI sp) (nI dp) (nI nn) = (vp_cell g.2.2.1.1 (n1, .inl (va_cpy (I a0) (I b0) (nI sp).toNatClampNeg (nI dp).toNatClampNeg (nI nn).toNatClampNeg))) := va_copied (fun z => .int z) g.2.2.1.1 g.2.2.1.1 (I a0) (I b0) (by rw [e0, e2]; omega)
  rw [e3, e0, e1, e2] at X' step
  have e4 : (vp_cell g.2.2.1.1 (n1, .inl (va_cpy (I a0) (I b0) sp dp nn))) = (vp_cell g.2.2.1.1 (n1, .inl J)) := by
    show arrV g.2.2.1.1 n1 (fun j => .int (va_cpy (I a0) (I b0) sp dp nn j)) = arrV g.2.2.1.1 n1 (fun j => .int (J j))
    exact arrV_ext _ (fun j hj => by rw [hJ j hj])
  rw [e4] at X' step
  have hl : g.1 + b0 < H.size := (Array.getElem?_eq_some_iff.mp hc1).1
  have hheap : ((T.setVm vm').setCell (g.1 + b0) (vp_cell g.2.2.1.1 (n1, .inl J))).heap = H.setIfInBounds (g.1 + b0) (vp_cell g.2.2.1.1 (n1, .inl J)) := by rw [← hT]; rfl
  obtain ⟨t, a1, b1⟩ := k hF _ (locs ++ _) ls kc ks q1 q2 (hH.set (H1 := H.setIfInBounds (g.1 + b0) (vp_cell g.2.2.1.1 (n1, .inl J))) lb (by simp) (fun q hq => by simp [Array.getElem?_setIfInBounds, Ne.symm hq]) up_ne (fun _ _ => rfl) (fun _ _ => rfl) (fun _ _ => rfl) (by
      rw [kb, nb_, ent_i, up_eq]
      show (H.setIfInBounds (g.1 + b0) _)[g.1 + b0]? = some _
      simp [Array.getElem?_setIfInBounds, hl])) (fun q hq => by
      rcases List.mem_append.mp hq with h | h
      · exact hL q h
      · obtain ⟨z, -, hz⟩ := List.mem_map.mp h
        rw [← hz]; exact Nat.le_add_right _ _) hlv _ hheap X'
  exact ⟨t, step t a1, b1⟩
theorem v_copyl {a0 b0 n0 n1 sp dp nn index : Nat} {J : Nat → Int64} (hlk : ArLk own index) (hd : decode cc pc = .ok (.invokestatic index, 3)) (ka : kd a0 = 10) (la : a0 < n) (na : N a0 = n0) (kb : kd b0 = 10) (lb : b0 < n) (nb_ : N b0 = n1) (h1 : sp + nn ≤ n0) (h2 : dp + nn ≤ n1) (h0 : n0 < 2 ^ 31) (h01 : n1 < 2 ^ 31) (hd1 : 1 ≤ d) (hst : st.length ≤ 4)
    (hJ : ∀ j, j < n1 → J j = va_cpy (L a0) (L b0) sp dp nn j)
    (k : V g F cc own nL d (pc + 3) lv st I (va_up L b0 J) R N n kr sr) : V g F cc own nL d pc lv (.int (nI nn) :: .int (nI dp) :: .ref (g.1 + b0) :: .int (nI sp) :: .ref (g.1 + a0) :: st) I L R N n kr sr := by
  obtain ⟨hlink, hnat, hstat, hini⟩ := hlk
  intro hF H locs ls kc ks q1 q2 hH hL hlv; obtain ⟨p, l, e, Rm, s, m, args, below, meth, c, Q⟩ := F
  obtain ⟨hx, hb, hml, ho, hts, hE, hf1, hf2⟩ := id hF
  have hcs := cat_sum st
  have hc0 := hH.2.2 a0 la
  have hc1 := hH.2.2 b0 lb
  rw [ka, na, ent_l] at hc0
  rw [kb, nb_, ent_l] at hc1
  have hc0 : H[g.1 + a0]? = some (vp_cell g.2.2.1.2.1 (n0, .inr (.inl (L a0)))) := hc0
  have hc1 : H[g.1 + b0]? = some (vp_cell g.2.2.1.2.1 (n1, .inr (.inl (L b0)))) := hc1
  have hK := (hE.2.1.2 1 _ rfl).1
  intro T hT X
  obtain ⟨-, k0, hk0, cm0, hkk0⟩ := hK n0 (fun j => .long (L a0 j))
  obtain ⟨-, k1, hk1, cm1, hkk1⟩ := hK n1 (fun j => .long (L b0 j))
  have e0 : (nI sp).toNatClampNeg = sp := nI_clamp (by omega)
  have e1 : (nI dp).toNatClampNeg = dp := nI_clamp (by omega)
  have e2 : (nI nn).toNatClampNeg = nn := nI_clamp (by omega)
  have hw : nativeFrameWords "java/lang/System" "arraycopy" 5 ≤ 24 := by decide
  obtain ⟨vm', X', step⟩ := X.arraycopy hx ho (hts _ hlink) (hts _ hnat) (hts _ hstat) (hts _ hini) (src := g.1 + a0) (dst := g.1 + b0) (cs := (vp_cell g.2.2.1.2.1 (n0, .inr (.inl (L a0))))) (cd := (vp_cell g.2.2.1.2.1 (n1, .inr (.inl (L b0))))) (srcPos := nI sp) (destPos := nI dp) (n := nI nn) (by rw [hT]; exact hc0) (by rw [hT]; exact hc1)
    (fun _ h => by cases h) (fun _ h => by cases h) (fun h => by cases h) (fun h => by cases h) hk0 hk1 hkk0 hkk1 rfl (nI_pos (by omega)) (nI_pos (by omega)) (nI_pos (by omega))
    (by rw [nI_toInt (by omega), nI_toInt (by omega)]; show ¬ _ > ((arrV g.2.2.1.2.1 n0 (fun j => .long (L a0 j))).slots.size : Int); rw [arrV_size]; omega)
    (by rw [nI_toInt (by omega), nI_toInt (by omega)]; show ¬ _ > ((arrV g.2.2.1.2.1 n1 (fun j => .long (L b0 j))).slots.size : Int); rw [arrV_size]; omega)
    (fun vm₁ _ i hi => by
      rw [e2] at hi
      have e : ((vp_cell g.2.2.1.2.1 (n0, .inr (.inl (L a0))))).slots.getD ((nI sp).toNatClampNeg + i) .null = .long (L a0 (sp + i)) := by
        rw [e0]
        show (arrV g.2.2.1.2.1 n0 (fun j => .long (L a0 j))).slots.getD _ _ = _
        rw [Array.getD_eq_getD_getElem?, arrV_read _ _ (by omega)]
        rfl
      refine ⟨?_, ?_⟩
      · rw [e]; rfl
      · rw [e]; exact trivial)
    (g := F0 m pc ls (.int (nI nn) :: .int (nI dp) :: .ref (g.1 + b0) :: .int (nI sp) :: .ref (g.1 + a0) :: st)) rfl (by show ls.size = _; rw [hml]; exact hlv.1) (rest := st) rfl (by rw [hb]; exact hd) (by show 1 ≤ Rm.frames; omega) (by show 2 * 0 + _ + (nativeFrameWords "java/lang/System" "arraycopy" 5 + 11) ≤ Rm.locals; omega)
  have e3 : copied (vp_cell g.2.2.1.2.1 (n0, .inr (.inl (L a0)))) (vp_cell g.2.2.1.2.1 (n1, .inr (.inl (L b0)))) (nI sp) (nI dp) (nI nn) = (vp_cell g.2.2.1.2.1 (n1, .inr (.inl (va_cpy (L a0) (L b0) (nI sp).toNatClampNeg (nI dp).toNatClampNeg (nI nn).toNatClampNeg)))) := va_copied (fun z => .long z) g.2.2.1.2.1 g.2.2.1.2.1 (L a0) (L b0) (by rw [e0, e2]; omega)
  rw [e3, e0, e1, e2] at X' step
  have e4 : (vp_cell g.2.2.1.2.1 (n1, .inr (.inl (va_cpy (L a0) (L b0) sp dp nn)))) = (vp_cell g.2.2.1.2.1 (n1, .inr (.inl J))) := by
    show arrV g.2.2.1.2.1 n1 (fun j => .long (va_cpy (L a0) (L b0) sp dp nn j)) = arrV g.2.2.1.2.1 n1 (fun j => .long (J j))
    exact arrV_ext _ (fun j hj => by rw [hJ j hj])
  rw [e4] at X' step
  have hl : g.1 + b0 < H.size := (Array.getElem?_eq_some_iff.mp hc1).1
  have hheap : ((T.setVm vm').setCell (g.1 + b0) (vp_cell g.2.2.1.2.1 (n1, .inr (.inl J)))).heap = H.setIfInBounds (g.1 + b0) (vp_cell g.2.2.1.2.1 (n1, .inr (.inl J))) := by rw [← hT]; rfl
  obtain ⟨t, a1, b1⟩ := k hF _ (locs ++ _) ls kc ks q1 q2 (hH.set (H1 := H.setIfInBounds (g.1 + b0) (vp_cell g.2.2.1.2.1 (n1, .inr (.inl J)))) lb (by simp) (fun q hq => by simp [Array.getElem?_setIfInBounds, Ne.symm hq]) (fun _ _ => rfl) up_ne (fun _ _ => rfl) (fun _ _ => rfl) (by
      rw [kb, nb_, ent_l, up_eq]
      show (H.setIfInBounds (g.1 + b0) _)[g.1 + b0]? = some _
      simp [Array.getElem?_setIfInBounds, hl])) (fun q hq => by
      rcases List.mem_append.mp hq with h | h
      · exact hL q h
      · obtain ⟨z, -, hz⟩ := List.mem_map.mp h
        rw [← hz]; exact Nat.le_add_right _ _) hlv _ hheap X'
  exact ⟨t, step t a1, b1⟩
end
theorem ar_X2_56 : ArLk RX2 56 := ⟨uw_t (tb2 (i := 35) rfl) rfl, uw_t (tb2 (i := 37) rfl) rfl, uw_t (tb2 (i := 36) rfl) rfl, uw_t (tb1 (i := 10) rfl) rfl⟩
theorem ar_X4_37 : ArLk RX4 37 := ⟨uw_t (tb3 (i := 43) rfl) rfl, uw_t (tb2 (i := 37) rfl) rfl, uw_t (tb2 (i := 36) rfl) rfl, uw_t (tb1 (i := 10) rfl) rfl⟩
theorem ar_X5_20 : ArLk RX5 20 := ⟨uw_t (tb3 (i := 177) rfl) rfl, uw_t (tb2 (i := 37) rfl) rfl, uw_t (tb2 (i := 36) rfl) rfl, uw_t (tb1 (i := 10) rfl) rfl⟩
theorem ar_X8_294 : ArLk RX8 294 := ⟨uw_t (tb4 (i := 12) rfl) rfl, uw_t (tb2 (i := 37) rfl) rfl, uw_t (tb2 (i := 36) rfl) rfl, uw_t (tb1 (i := 10) rfl) rfl⟩

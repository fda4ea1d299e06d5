/-! the calls that change something -/
theorem oz_up {n j : Nat} {f : Nat → Int32} {x : Int32} (h : oz n f) (hj : j < n) : oz n (va_up f j x) := fun i hi => (up_off _ _ (by omega)).trans (h i hi)
theorem al_up {n j : Nat} {f : Nat → Int32} {x : Int32} {P : Int32 → Prop} (h : ∀ p, p < n → P (f p)) (hx : P x) : ∀ p, p < n → P (va_up f j x p) := fun p hp => by
  by_cases e : p = j
  · subst e; rw [up_at]; exact hx
  · rw [up_off _ _ e]; exact h p hp
section
variable {ga kd vv sp gl ch no rw ga2 kd2 vv2 sp2 gl2 ch2 no2 rw2 : Nat → Int32} {j : Nat} {x : Int32}
theorem jL_ga (h : jL ga kd vv sp gl ch no rw ga2 kd2 vv2 sp2 gl2 ch2 no2 rw2) (hj : j < 16) : jL (va_up ga j x) kd vv sp gl ch no rw (va_up ga2 j x) kd2 vv2 sp2 gl2 ch2 no2 rw2 := by
  obtain ⟨e1, e2, e3, e4, e5, e6, e7, e8, ⟨z1, z2, z3, z4, z5, z6, z7, z8⟩, k, s, gg, c, m⟩ := h
  exact ⟨by rw [e1], e2, e3, e4, e5, e6, e7, e8, ⟨oz_up z1 hj, z2, z3, z4, z5, z6, z7, z8⟩, k, s, gg, c, m⟩
theorem jL_sp (h : jL ga kd vv sp gl ch no rw ga2 kd2 vv2 sp2 gl2 ch2 no2 rw2) (hj : j < 6) (hx : inr x 16) : jL ga kd vv (va_up sp j x) gl ch no rw ga2 kd2 vv2 (va_up sp2 j x) gl2 ch2 no2 rw2 := by
  obtain ⟨e1, e2, e3, e4, e5, e6, e7, e8, ⟨z1, z2, z3, z4, z5, z6, z7, z8⟩, k, s, gg, c, m⟩ := h
  exact ⟨e1, e2, e3, by rw [e4], e5, e6, e7, e8, ⟨z1, z2, z3, oz_up z4 hj, z5, z6, z7, z8⟩, k, al_up (P := fun y => ∃ c, c < 16 ∧ y = nI c) s ⟨tn x, inr_lt hx, inr_nI hx⟩, gg, c, m⟩
theorem gl_ok {x : Int32} (hx : x = -1 ∨ inr x 16) : ifc (inr x 16) x (-5) = ifc (x < 0) (-5) x ∧ (x < 0 ∨ ∃ c, c < 16 ∧ x = nI c) := by
  rcases hx with e | h
  · subst e
    rw [ifc_f (by rw [inr_m1]; exact id), ifc_t (by decide)]
    exact ⟨rfl, Or.inl (by decide)⟩
  · have hn : ¬ x < 0 := fun q => inr_lo q h
    rw [ifc_t h, ifc_f hn]
    exact ⟨rfl, Or.inr ⟨tn x, inr_lt h, inr_nI h⟩⟩
theorem jL_gl (h : jL ga kd vv sp gl ch no rw ga2 kd2 vv2 sp2 gl2 ch2 no2 rw2) (hj : j < 6) (hx : x = -1 ∨ inr x 16) : jL ga kd vv sp (va_up gl j x) ch no rw ga2 kd2 vv2 sp2 (va_up gl2 j (ifc (inr x 16) x (-5))) ch2 no2 rw2 := by
  obtain ⟨e1, e2, e3, e4, e5, e6, e7, e8, ⟨z1, z2, z3, z4, z5, z6, z7, z8⟩, k, s, gg, c, m⟩ := h
  obtain ⟨q1, q2⟩ := gl_ok hx
  refine ⟨e1, e2, e3, e4, ?_, e6, e7, e8, ⟨z1, z2, z3, z4, oz_up z5 hj, z6, z7, z8⟩, k, s, al_up (P := fun y => y < 0 ∨ ∃ c, c < 16 ∧ y = nI c) gg q2, c, m⟩
  rw [e5, q1]
  by_cases hn : x < 0
  · rw [gF_up _ _ hn, ifc_t hn]
  · rw [gF_up2 _ _ hn, ifc_f hn]
theorem jL_ch (h : jL ga kd vv sp gl ch no rw ga2 kd2 vv2 sp2 gl2 ch2 no2 rw2) (hj : j < 6) (hx : inr x 65536) : jL ga kd vv sp gl (va_up ch j x) no rw ga2 kd2 vv2 sp2 gl2 (va_up ch2 j x) no2 rw2 := by
  obtain ⟨e1, e2, e3, e4, e5, e6, e7, e8, ⟨z1, z2, z3, z4, z5, z6, z7, z8⟩, k, s, gg, c, m⟩ := h
  exact ⟨e1, e2, e3, e4, e5, by rw [e6], e7, e8, ⟨z1, z2, z3, z4, z5, oz_up z6 hj, z7, z8⟩, k, s, gg, al_up (P := fun y => inr y 65536) c hx, m⟩
theorem jL_rw (h : jL ga kd vv sp gl ch no rw ga2 kd2 vv2 sp2 gl2 ch2 no2 rw2) (hj : j < 24) : jL ga kd vv sp gl ch no (va_up rw j x) ga2 kd2 vv2 sp2 gl2 ch2 no2 (va_up rw2 j x) := by
  obtain ⟨e1, e2, e3, e4, e5, e6, e7, e8, ⟨z1, z2, z3, z4, z5, z6, z7, z8⟩, k, s, gg, c, m⟩ := h
  exact ⟨e1, e2, e3, e4, e5, e6, e7, by rw [e8], ⟨z1, z2, z3, z4, z5, z6, z7, oz_up z8 hj⟩, k, s, gg, c, m⟩
def z4 (f : Nat → Int32) (p : Nat) : Nat → Int32 := va_up (va_up (va_up (va_up f (4 * p + 0) 0) (4 * p + 1) 0) (4 * p + 2) 0) (4 * p + 3) 0
theorem jL_new (h : jL ga kd vv sp gl ch no rw ga2 kd2 vv2 sp2 gl2 ch2 no2 rw2) {p : Nat} {k v c : Int32} (hp : p < 6) (hk : inr k 7) (hc : inr c 16) :
    jL ga (va_up kd p k) (va_up vv p v) (va_up sp p c) (va_up gl p (-1)) (va_up ch p 0) (va_up no p 0) (z4 rw p) ga2 (va_up kd2 p k) (va_up vv2 p v) (va_up sp2 p c) (va_up gl2 p (-5)) (va_up ch2 p 0) (va_up no2 p 0) (z4 rw2 p) := by
  obtain ⟨e1, e2, e3, e4, e5, e6, e7, e8, ⟨z1, z2, z3, z5, z6, z7, z8, z9⟩, kk, s, gg, cc, m⟩ := h
  refine ⟨e1, by rw [e2], by rw [e3], by rw [e4], by rw [e5, gF_up _ _ (by decide)], by rw [e6], by rw [e7], by rw [e8], ⟨z1, oz_up z2 hp, oz_up z3 hp, oz_up z5 hp, oz_up z6 hp, oz_up z7 hp, oz_up z8 hp, oz_up (oz_up (oz_up (oz_up z9 (by omega)) (by omega)) (by omega)) (by omega)⟩, ?_, ?_, ?_, ?_, ?_⟩
  · exact al_up (P := fun y => inr y 7) kk hk
  · exact al_up (P := fun y => ∃ c, c < 16 ∧ y = nI c) s ⟨tn c, inr_lt hc, inr_nI hc⟩
  · exact al_up (P := fun y => y < 0 ∨ ∃ c, c < 16 ∧ y = nI c) gg (Or.inl (by decide))
  · exact al_up (P := fun y => inr y 65536) cc ⟨by decide, by decide⟩
  · exact al_up (P := fun y => ∃ k, k ≤ 9999 ∧ y = nI k) m ⟨0, by decide, rfl⟩
end
section
variable {g : Gl} {I I0 : Ty} {L L0 : TL} {R : TR} {N : TN} {n : Nat} {nl : Nat → Nat} {na nt ni na2 ni2 c pp hh : Nat} {y8 y9 : MethodName} {c8 c9 : ByteArray} {m8 m9 d8 d9 : Nat} {as : List Value} {r : Int32}
theorem ms (h8 : Ct g y8 c8 m8 (some .int) d8 0 0 (.ref (g.1 + 0) :: as) I L (RT na nt ni) (NT nl) (NB + 2 * c) (PZ na2 ni2 (2 * c) nl (some (.int r)) I0 L0))
    (h9 : ∀ (kp : Ty) (nt' : Nat), ∃ (r9 : Int32) (I9 : Ty) (L9 : TL), r9 = r ∧ Ct g y9 c9 m9 (some .int) d9 0 0 (.ref (g.1 + 65) :: as) (scC I0 kp) L0 (RT na2 nt' ni2) (NT nl) (NB + 2 * c) (Ps (some (.int r9)) I9 L9 (RT na2 nt' ni2) (NT nl) (NB + 2 * c)) ∧ ∃ pp hh, JJ I9 L9 nl na2 ni2 c pp hh) :
    StpI g y8 c8 m8 d8 0 0 y9 c9 m9 d9 as I L (RT na nt ni) (NT nl) (NB + 2 * c) := by
  refine ⟨_, h8, fun v I1 L1 R1 N1 n1 hp => ?_⟩
  obtain ⟨rfl, ⟨kp, rfl⟩, rfl, ⟨nt', rfl⟩, rfl, rfl⟩ := hp
  obtain ⟨r9, I9, L9, rfl, hz, pp, hh, hJ⟩ := h9 kp nt'
  refine ⟨Nat.le_add_right _ _, _, rfl, _, hz, fun v2 I2 L2 R2 N2 n2 hq => ?_⟩
  obtain ⟨rfl, rfl, rfl, rfl, rfl, rfl⟩ := hq
  exact ⟨rfl, JJ_X hJ nt'⟩
theorem s_put (h : JX I L R N n) (pz cz : Int32) : StpI g yX8_put cX8_put 4 1 0 0 yX9_put cX9_put 4 3 [.int pz, .int cz] I L R N n := by
  obtain ⟨na, nt, ni, c, nl, pp, hh, rfl, rfl, rfl, hJ⟩ := h
  obtain ⟨hpp, hpe, _⟩ := JJ_8 hJ
  refine ms (c_X8_put pz cz pp hpp hpe) (fun kp nt' => ⟨_, _, _, ?_, c_X9_put (I := scC _ kp) pz cz pp hpp ?_, pp, hh, ?_⟩)
  · by_cases q : inr pz pp ∧ inr cz 16
    · rw [ifc_t q, ifc_t q, ifc_t q]; exact congrFun (JJ_E hJ).2.2.2.2.2.2.1 _
    · rw [ifc_f q, ifc_f q]
  · by_cases q : inr pz pp ∧ inr cz 16
    · rw [ifc_t q]; exact hJ.2.1.2.2.2.1
    · rw [ifc_f q]; exact hJ.2.1.2.2.2.1
  · by_cases q : inr pz pp ∧ inr cz 16
    · rw [ifc_t q, ifc_t q]
      obtain ⟨h1, h2, h3, h4, h5, h6, h7, h8, h9⟩ := hJ
      have w := jL_sp h3 (j := tn pz) (by have := inr_lt q.1; omega) q.2
      exact ⟨jN_keep (I := I) rfl rfl rfl rfl rfl rfl rfl rfl rfl rfl (hi_up (by decide) (hi_scC (hi_up (by decide) (hi_0 I)))) h1, h2, w, h4, h5, h6, h7, jT_keep (I := I) (L := L) rfl rfl (tp_cases ⟨rfl, rfl, rfl, rfl, rfl, rfl⟩) rfl h8, h9⟩
    · rw [ifc_f q, ifc_f q]; exact JJ_scC kp hJ
end

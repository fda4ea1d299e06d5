section
variable {g : Gl} {I I0 : Ty} {L L0 : TL} {R : TR} {N : TN} {n : Nat}
theorem mq {nl : Nat → Nat} {na nt ni na2 ni2 c : Nat} {y8 y9 : MethodName} {c8 c9 : ByteArray} {m8 m9 d8 d9 : Nat} {as : List Value} {r : Int32} (h8 : Ct g y8 c8 m8 (some .int) d8 0 0 (.ref (g.1 + 0) :: as) I L (RT na nt ni) (NT nl) (NB + 2 * c) (PZ na2 ni2 (2 * c) nl (some (.int r)) I0 L0))
    (h9 : ∀ (kp : Ty) (nt' : Nat), ∃ (r9 : Int32) (I9 : Ty) (L9 : TL), r9 = r ∧ Ct g y9 c9 m9 (some .int) d9 0 0 (.ref (g.1 + 65) :: as) (scC I0 kp) L0 (RT na2 nt' ni2) (NT nl) (NB + 2 * c) (Pq (some (.int r9)) I9 L9 (RT na2 nt' ni2) (NT nl) (NB + 2 * c)) ∧ ∃ pp hh, JJ I9 L9 nl na2 ni2 c pp hh) :
    StpI g y8 c8 m8 d8 0 0 y9 c9 m9 d9 as I L (RT na nt ni) (NT nl) (NB + 2 * c) := by
  refine ⟨_, h8, fun v I1 L1 R1 N1 n1 hp => ?_⟩
  obtain ⟨rfl, ⟨kp, rfl⟩, rfl, ⟨nt', rfl⟩, rfl, rfl⟩ := hp
  obtain ⟨r9, I9, L9, rfl, hz, pp, hh, hJ⟩ := h9 kp nt'
  refine ⟨Nat.le_add_right _ _, _, rfl, _, hz, fun v2 I2 L2 R2 N2 n2 hq => ?_⟩
  obtain ⟨rfl, ⟨f, f2, rfl⟩, rfl, rfl, rfl, rfl⟩ := hq
  exact ⟨rfl, JJ_X (JJ_scr f f2 hJ) nt'⟩
theorem hrN_2 {ga kd vv gl rw : Nat → Int32} {pp : Nat} {ns : (Int32 → Int32) → Int32 → Int32} {fd : Int32} {less : Int32 → Int32} {z : ZH} : ∀ k, (hrN ga kd vv gl rw pp ns fd less z k).2 = z.2 + nI k
  | 0 => (Int32.add_zero _).symm
  | k + 1 => by
    rw [hrN]
    show (hrN ga kd vv gl rw pp ns fd less z k).2 + 1 = _
    rw [hrN_2 k, Int32.add_assoc]
    show z.2 + (nI k + 1) = _
    rw [nI_1]
theorem oz_of {m : Nat} {f f2 : Nat → Int32} (h : oz m f) (h2 : ∀ j, m ≤ j → f2 j = f j) : oz m f2 := fun j hj => (h2 j hj).trans (h j hj)
theorem s_pass (h : JX I L R N n) (nz : Int32) : StpI g yX8_pass cX8_pass 2 6 0 0 yX9_pass cX9_pass 2 7 [.int nz] I L R N n := by
  obtain ⟨na, nt, ni, c, nl, pp, hh, rfl, rfl, rfl, hJ⟩ := h
  obtain ⟨hpp, hpe, hxm, hsl, hok, hS, hch, hG, hnb⟩ := JJ_8 hJ
  have hh9 := hJ.2.1.2.1
  have hhe := hJ.2.1.2.2.2.2.1
  have h63 : I 23 11 = 63 := hJ.2.1.2.2.2.2.2.2.1
  have h29 : I 65 29 = 9999 := hJ.2.1.2.2.2.2.2.2.2
  have hE := (JJ_E hJ).2.2.2
  obtain ⟨q1, q2⟩ := chrN_eq (go := 63) (ga := I 24) (kd := I 25) (vv := I 26) (gl := I 28) (rw := I 31) (pp := pp) (ns := nsW I nl na) (fd := I (ncell na) 0) lsq_real hpp (z := mgH23 I) (Nat.le_refl _) hnb (tn nz) (by omega)
  have q3 := chrN_ok (go := 63) (ga := I 24) (kd := I 25) (vv := I 26) (gl := I 28) (rw := I 31) (pp := pp) (ns := nsW I nl na) (fd := I (ncell na) 0) (less := lessC 9999) hpp (z := mgH23 I) ⟨hS, hch⟩ hG (tn nz)
  rw [q1, chrN_63 hpp] at q3
  rw [chrN_63 hpp] at q2
  have q1 := q1.trans (chrN_63 hpp (tn nz))
  have q4 := hrN_off (ga := I 24) (kd := I 25) (vv := I 26) (gl := gF (I 28)) (rw := I 31) (pp := pp) (ns := nsW I nl na) (fd := I (ncell na) 0) (less := lessM 9999) (z := mgH23 I) hpp (tn nz)
  have q5 := hrN_2 (ga := I 24) (kd := I 25) (vv := I 26) (gl := gF (I 28)) (rw := I 31) (pp := pp) (ns := nsW I nl na) (fd := I (ncell na) 0) (less := lessM 9999) (z := mgH23 I) (tn nz)
  have q6 : hrN (I 66) (I 67) (I 68) (I 70) (I 73) pp (msum I) (mfade I) (lessM (I 65 29)) (mgetH I) (tn nz) = hrN (I 24) (I 25) (I 26) (gF (I 28)) (I 31) pp (nsW I nl na) (I (ncell na) 0) (lessM 9999) (mgH23 I) (tn nz) := by
    obtain ⟨e0, e1, e2, e3, e4, e5, e6, e7, e8, e9, e10⟩ := hE
    show hrN (I 66) (I 67) (I 68) (I 70) (I 73) pp (msum I) (mfade I) (lessM (I 65 29)) ((I 69, I 71, I 72), I 65 1) (tn nz) = _
    rw [e0, e1, e2, e3, e4, e5, e6, e7, e8, ← e9, ← e10, h29]; rfl
  have h8 := c_X8_pass (g := g) (L := L) (nt := nt) (ni := ni) nz pp hpp hpe hxm hsl hok hS hch hG hh hh9 hhe
  rw [h63, q1] at h8
  generalize hZ : hrN (I 24) (I 25) (I 26) (gF (I 28)) (I 31) pp (nsW I nl na) (I (ncell na) 0) (lessM 9999) (mgH23 I) (tn nz) = Z at h8 q2 q3 q4 q5 q6
  by_cases q : inr nz 41 ∧ hh + tn nz ≤ 9999
  · rw [ifc_t q] at h8
    refine mq h8 (fun kp nt' => ⟨_, _, _, ?_, c_X9_pass (I := scC (mpH23 I Z) kp) nz pp hpp hJ.2.1.2.2.2.1 (JJ_9 hJ).2.1 (JJ_9 hJ).2.2.1 (JJ_9 hJ).2.2.2.1 hh hh9 hJ.2.1.2.2.2.2.2.1, pp, hh + tn nz, ?_⟩)
    · refine ifc_cg (fun _ => ifc_cg (fun _ => ?_) (fun _ => rfl)) (fun _ => rfl)
      exact congrArg Prod.snd q6
    · rw [ifc_t q]
      show JJ (mputH (scC (mpH23 I Z) kp) (hrN (I 66) (I 67) (I 68) (I 70) (I 73) pp (msum I) (mfade I) (lessM (I 65 29)) (mgetH I) (tn nz))) L nl na ni c pp (hh + tn nz)
      rw [q6]
      obtain ⟨h1, h2, h3, h4, h5, h6, h7, h8, h9⟩ := hJ
      have hi : hiE (mputH (scC (mpH23 I Z) kp) Z) I := hi_up (by decide) (hi_up (by decide) (hi_up (by decide) (hi_up (by decide) (hi_scC (hi_up (by decide) (hi_up (by decide) (hi_up (by decide) (hi_up (by decide) (hi_0 I)))))))))
      have h3b : jL (I 24) (I 25) (I 26) (I 27) (I 28) (I 29) (I 30) (I 31) (I 66) (I 67) (I 68) (I 69) (I 70) (I 71) (I 72) (I 73) := h3
      obtain ⟨e1, e2, e3, e4, e5, e6, e7, e8, ⟨z1, z2, z3, z4, z5, z6, z7, z8⟩, kk, s, gg, cc, m⟩ := h3b
      have w : jL (I 24) (I 25) (I 26) Z.1.1 (I 28) Z.1.2.1 Z.1.2.2 (I 31) (I 66) (I 67) (I 68) Z.1.1 (I 70) Z.1.2.1 Z.1.2.2 (I 73) := ⟨e1, e2, e3, rfl, e5, rfl, rfl, e8, ⟨z1, z2, z3, oz_of z4 (fun j hj => (q4 j hj).1), z5, oz_of z6 (fun j hj => (q4 j hj).2.1), oz_of z7 (fun j hj => (q4 j hj).2.2), z8⟩, kk, q3.1, gg, q3.2, fun p hp => by obtain ⟨k, hk, ek⟩ := q2 p hp; exact ⟨k, by omega, ek⟩⟩
      have e2n : Z.2 = nI (hh + tn nz) := by
        rw [q5]
        show I 23 9 + nI (tn nz) = _
        rw [hhe, nI_add]
      exact ⟨jN_keep (I := I) rfl rfl rfl rfl rfl rfl rfl rfl rfl rfl hi h1, ⟨h2.1, q.2, h2.2.2.1, h2.2.2.2.1, e2n, e2n, h2.2.2.2.2.2.2⟩, w, h4, h5, h6, h7, jT_keep (I := I) (L := L) rfl rfl (tp_cases ⟨rfl, rfl, rfl, rfl, rfl, rfl⟩) rfl h8, h9⟩
  · rw [ifc_f q] at h8
    refine mq h8 (fun kp nt' => ⟨_, _, _, ?_, c_X9_pass (I := scC I kp) nz pp hpp hJ.2.1.2.2.2.1 (JJ_9 hJ).2.1 (JJ_9 hJ).2.2.1 (JJ_9 hJ).2.2.2.1 hh hh9 hJ.2.1.2.2.2.2.2.1, pp, hh, ?_⟩)
    · refine ifc_cg (fun _ => ifc_cg (fun _ => ?_) (fun _ => rfl)) (fun _ => rfl)
      exact congrArg Prod.snd q6
    · rw [ifc_f q]; exact JJ_scC kp hJ
end

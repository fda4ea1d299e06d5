/-- a table that stands since the start -/
def TabF (g : Gl) (F : Fx) (t n : Nat) (f : Nat → Int32) : Prop := va_T .int t n (fun j => .int (f j)) (AG g) F.2.2.2.2.1 g.2.2.2.1
theorem Hp.low {g : Gl} {I : Ty} {L : TL} {R : TR} {N : TN} {n : Nat} {H : Heap} (h : Hp g I L R N n H) {a : Nat} (ha : ¬ AG g a) : H[a]? = g.2.2.2.1[a]? := h.2.1 a (Nat.not_le.mp ha)
section
variable {g : Gl} {F : Fx} {cc : ByteArray} {own : String} {nL d pc : Nat} {lv : List (Nat × Value)} {st : List Value} {I : Ty} {L : TL} {R : TR} {N : TN} {n kr sr : Nat}
theorem v_getSABOVE {index : Nat} (hl : Cond.fieldLink RX8 index RX8 "ABOVE" "[I" ∈ UW) (hd : decode cc pc = .ok (.getstatic index, 3)) (k : ∀ t, TabF g F t 7 (fun j => aboveT.getD j 0) → V g F cc RX8 nL d (pc + 3) lv (.ref t :: st) I L R N n kr sr) : V g F cc RX8 nL d pc lv st I L R N n kr sr := by
  intro hF H locs ls kc ks h1 h2 hH hL hlv; obtain ⟨p, l, e, Rm, s, m, args, below, meth, c, Q⟩ := F
  obtain ⟨hx, hb, hml, ho, hts, hE, hf1, hf2⟩ := id hF
  obtain ⟨hz, hK, hSx⟩ := hE
  obtain ⟨t, hZ, hT⟩ := hSx.1
  obtain ⟨cf, kf, fi, f, a, cell, g1, g2, g3, g4, g5, g6, g7, g8⟩ := hZ
  exact W.gets hx hb ho (hts _ hl) g1 g2 g3 g4 (by rw [hH.low g8]; exact g5) (fun e => by rw [e] at g6; cases g6) g7 rfl hd (k t hT hF H locs ls kc ks h1 h2 hH hL hlv)
theorem v_getSBODIES {index : Nat} (hl : Cond.fieldLink RX0 index RX0 "BODIES" "[I" ∈ UW) (hd : decode cc pc = .ok (.getstatic index, 3)) (k : ∀ t, TabF g F t 21 (fun j => bodiesT.getD j 0) → V g F cc RX0 nL d (pc + 3) lv (.ref t :: st) I L R N n kr sr) : V g F cc RX0 nL d pc lv st I L R N n kr sr := by
  intro hF H locs ls kc ks h1 h2 hH hL hlv; obtain ⟨p, l, e, Rm, s, m, args, below, meth, c, Q⟩ := F
  obtain ⟨hx, hb, hml, ho, hts, hE, hf1, hf2⟩ := id hF
  obtain ⟨hz, hK, hSx⟩ := hE
  obtain ⟨t, hZ, hT⟩ := hSx.2.1
  obtain ⟨cf, kf, fi, f, a, cell, g1, g2, g3, g4, g5, g6, g7, g8⟩ := hZ
  exact W.gets hx hb ho (hts _ hl) g1 g2 g3 g4 (by rw [hH.low g8]; exact g5) (fun e => by rw [e] at g6; cases g6) g7 rfl hd (k t hT hF H locs ls kc ks h1 h2 hH hL hlv)
theorem v_tiload {t tn_ j : Nat} {f : Nat → Int32} {x : Int32} (hT : TabF g F t tn_ f) (hd : decode cc pc = .ok (.iaload, 1)) (hx : x = nI j) (hj : j < tn_) (hn : tn_ < 2 ^ 31) (k : V g F cc own nL d (pc + 1) lv (.int (f j) :: st) I L R N n kr sr) : V g F cc own nL d pc lv (.int x :: .ref t :: st) I L R N n kr sr := by
  intro hF H locs ls kc ks h1 h2 hH hL hlv; obtain ⟨p, l, e, Rm, s, m, args, below, meth, c, Q⟩ := F
  subst hx
  obtain ⟨cell, g1, g2, g3, g4, g5, g6, g7⟩ := hT
  have e0 : (nI j).toNatClampNeg = j := nI_clamp (by omega)
  refine W.iald (v := .int (f j)) hF.1 hF.2.1 (by rw [hH.low g7]; exact g1) g2 g3 ?_ (by rw [e0]; exact g6 _ hj) rfl rfl hd (k hF H locs ls kc ks h1 h2 hH hL hlv)
  intro q
  rcases q with q | q
  · exact nI_pos (by omega) q
  · rw [e0] at q; omega
theorem v_tlen {t tn_ : Nat} {f : Nat → Int32} (hT : TabF g F t tn_ f) (hd : decode cc pc = .ok (.arraylength, 1)) (k : V g F cc own nL d (pc + 1) lv (.int (nI tn_) :: st) I L R N n kr sr) : V g F cc own nL d pc lv (.ref t :: st) I L R N n kr sr := by
  intro hF H locs ls kc ks h1 h2 hH hL hlv; obtain ⟨p, l, e, Rm, s, m, args, below, meth, c, Q⟩ := F
  obtain ⟨cell, g1, g2, g3, g4, g5, g6, g7⟩ := hT
  exact W.alen (n := Int32.ofNat tn_) hF.1 hF.2.1 (by rw [hH.low g7]; exact g1) g2 g5 rfl rfl hd (k hF H locs ls kc ks h1 h2 hH hL hlv)
end
set_option maxRecDepth 100000 in
set_option maxHeartbeats 400000 in
theorem c_X4_append {g : Gl} {I : Ty} {L : TL} {na nt ni m : Nat} {nl : Nat → Nat} (sz : Int32) (fd : Nat) (hfd : fd < 100) (hfe : I 15 0 = nI fd) : Ct g yX4_append cX4_append 2 (some .int) 0 0 0 [.ref (g.1 + 15), .int sz] I L (RT na nt ni) (NT nl) (NB + m) (Ps (some (.int (nI (fd + 1)))) (wr (wr I 16 fd sz) 15 0 (nI (fd + 1))) L (RT na nt ni) (NT nl) (NB + m)) := by
  refine ct_of (by decide +kernel) (Nat.le_of_ble_eq_true rfl) (fun F hnm hr => ?_)
  clear hnm
  show V g F cX4_append RX4 2 0 0 [(0, .ref (g.1 + 15)), (1, .int sz)] [] I L (RT na nt ni) (NT nl) (NB + m) 0 0
  refine v_aload_n dX4_append_0 rfl 0 rfl ?_
  refine v_get (v := .ref (g.1 + 16)) fa_X4_9 dX4_append_1 rfl (by decide) (ltn rfl) rfl ?_
  refine v_aload_n dX4_append_4 rfl 0 rfl ?_
  refine v_get (v := .int (I 15 0)) fa_X4_16 dX4_append_5 rfl (by decide) (ltn rfl) rfl ?_
  refine v_is hfe ?_
  refine v_iload_n dX4_append_8 rfl 1 rfl ?_
  refine v_iastore (len := 100) (j := fd) dX4_append_9 rfl (ltn rfl) rfl (by decide) rfl (by omega) ?_
  refine v_aload_n dX4_append_10 rfl 0 rfl ?_
  refine v_dup dX4_append_11 rfl ?_
  refine v_get (v := .int (I 15 0)) fa_X4_16 dX4_append_12 rfl (by decide) (ltn rfl) rfl ?_
  refine v_is hfe ?_
  refine v_iconst (v := 1) dX4_append_15 (by decide) ?_
  refine v_iadd dX4_append_16 ?_
  refine v_is (nx_add rfl rfl) ?_
  refine v_puti pa_X4_16 dX4_append_17 rfl (by decide) (ltn rfl) (by show 0 < 7; decide) rfl ?_
  refine v_aload_n dX4_append_20 rfl 0 rfl ?_
  refine v_get (v := .int (nI (fd + 1))) fa_X4_16 dX4_append_21 rfl (by decide) (ltn rfl) rfl ?_
  exact v_iret hr dX4_append_24 (psi (by rfl) (by first | rfl | (simp only [bq, ifc_T, ifc_F, inr_m1, and_true, true_and, and_false, false_and, or_true, true_or, or_false, false_or, not_true_eq_false, not_false_eq_true, and_self, or_self]; done) | (simp [bq, ifc_T, ifc_F, inr_m1]; done) | ((try simp only [bq]); repeat (first | rfl | (refine eq_t ?_ ?_; focus (first | omega | assumption | (simp [inr_m1]; done) | (simp [inr_m1]; omega) | (clear hr; (try clear hkn); simp_all; done))) | (refine eq_f ?_ ?_; focus (first | omega | assumption | (simp [inr_m1]; done) | (simp [inr_m1]; omega) | (clear hr; (try clear hkn); simp_all; done))) | (exfalso; clear hr; (try clear hkn); simp_all; done)))))
set_option maxRecDepth 100000 in
set_option maxHeartbeats 400000 in
theorem c_X8_feed {g : Gl} {I : Ty} {L : TL} {na nt ni m : Nat} {nl : Nat → Nat} (sz : Int32) (fd : Nat) (hfd : fd ≤ 100) (hfe : I 15 0 = nI fd) : Ct g yX8_feed cX8_feed 2 (some .int) 1 0 0 [.ref (g.1 + 0), .int sz] I L (RT na nt ni) (NT nl) (NB + m) (PZ na ni m nl (some (.int (ifc (inr sz 128) (ifc (fd = 100) (-4) (nI (fd + 1))) (-2)))) (ifc (inr sz 128 ∧ fd ≠ 100) (wr (wr I 16 fd sz) 15 0 (nI (fd + 1))) I) L) := by
  refine ct_of (by decide +kernel) (Nat.le_of_ble_eq_true rfl) (fun F hnm hr => ?_)
  clear hnm
  show V g F cX8_feed RX8 2 1 0 [(0, .ref (g.1 + 0)), (1, .int sz)] [] I L (RT na nt ni) (NT nl) (NB + m) 0 0
  refine v_iload_n dX8_feed_0 rfl 1 rfl ?_
  refine v_if_lt (tgt := 10) dX8_feed_1 (by decide) (fun h1 => ?_) (fun h1 => ?_)
  · -- sz lt 0
    have r2 : ¬ inr sz 128 := inr_lo h1
    -- not inr sz 128
    refine v_bipush (v := (-2)) dX8_feed_10 (by decide) ?_
    exact v_iret hr dX8_feed_12 (⟨congrArg (fun z => some (Value.int z)) (by first | rfl | (simp only [bq, ifc_T, ifc_F, inr_m1, and_true, true_and, and_false, false_and, or_true, true_or, or_false, false_or, not_true_eq_false, not_false_eq_true, and_self, or_self, h1, r2]; done) | (simp [bq, ifc_T, ifc_F, inr_m1, h1, r2]; done) | ((try simp only [bq]); repeat (first | rfl | (refine eq_t ?_ ?_; focus (first | omega | assumption | (simp [inr_m1, h1, r2]; done) | (simp [inr_m1, h1, r2]; omega) | (clear hr; (try clear hkn); simp_all; done))) | (refine eq_f ?_ ?_; focus (first | omega | assumption | (simp [inr_m1, h1, r2]; done) | (simp [inr_m1, h1, r2]; omega) | (clear hr; (try clear hkn); simp_all; done))) | (exfalso; clear hr; (try clear hkn); simp_all; done)))), ⟨_, (show I = _ from (by first | rfl | (simp only [bq, ifc_T, ifc_F, inr_m1, and_true, true_and, and_false, false_and, or_true, true_or, or_false, false_or, not_true_eq_false, not_false_eq_true, and_self, or_self, h1, r2]; done) | (simp [bq, ifc_T, ifc_F, inr_m1, h1, r2]; done) | ((try simp only [bq]); repeat (first | rfl | (refine eq_t ?_ ?_; focus (first | omega | assumption | (simp [inr_m1, h1, r2]; done) | (simp [inr_m1, h1, r2]; omega) | (clear hr; (try clear hkn); simp_all; done))) | (refine eq_f ?_ ?_; focus (first | omega | assumption | (simp [inr_m1, h1, r2]; done) | (simp [inr_m1, h1, r2]; omega) | (clear hr; (try clear hkn); simp_all; done))) | (exfalso; clear hr; (try clear hkn); simp_all; done))))).trans (scC_self _)⟩, rfl, ⟨_, rfl⟩, rfl, rfl⟩)
  · -- sz ge 0
    refine v_iload_n dX8_feed_4 rfl 1 rfl ?_
    refine v_bipush (v := 127) dX8_feed_5 (by decide) ?_
    refine v_icmp_le (tgt := 13) dX8_feed_7 (by decide) (fun h3 => ?_) (fun h3 => ?_)
    · -- sz le 127
      have r4 : inr sz 128 := inr_mk2 (k := 127) (by omega) h1 (Int32.not_lt.mpr h3)
      -- inr sz 128
      have h3n := Int32.not_lt.mpr h3
      refine v_aload_n dX8_feed_13 rfl 0 rfl ?_
      refine v_get (v := .ref (g.1 + 15)) fa_X8_24 dX8_feed_14 rfl (by decide) (ltn rfl) rfl ?_
      refine v_get (v := .int (I 15 0)) fa_X8_128 dX8_feed_17 rfl (by decide) (ltn rfl) rfl ?_
      refine v_is hfe ?_
      refine v_bipush (v := 100) dX8_feed_20 (by decide) ?_
      refine v_icmp_ltN (a := fd) (b := 100) (tgt := 28) dX8_feed_22 (by decide) rfl rfl (by omega) (by omega) (fun h5 => ?_) (fun h5 => ?_)
      · -- fd lt 100
        refine v_aload_n dX8_feed_28 rfl 0 rfl ?_
        refine v_get (v := .ref (g.1 + 15)) fa_X8_24 dX8_feed_29 rfl (by decide) (ltn rfl) rfl ?_
        refine v_iload_n dX8_feed_32 rfl 1 rfl ?_
        refine v_callVi (As := [.int sz]) (rest := []) lk_X8_131 (c_X4_append sz fd (by omega) hfe) dX8_feed_33 rfl (ltn rfl) rfl rfl (Nat.le_of_ble_eq_true rfl) (by decide) ?_
        exact v_iret hr dX8_feed_36 (⟨congrArg (fun z => some (Value.int z)) (by first | rfl | (simp only [bq, ifc_T, ifc_F, inr_m1, and_true, true_and, and_false, false_and, or_true, true_or, or_false, false_or, not_true_eq_false, not_false_eq_true, and_self, or_self, h1, h3, r4, h3n, h5]; done) | (simp [bq, ifc_T, ifc_F, inr_m1, h1, h3, r4, h3n, h5]; done) | ((try simp only [bq]); repeat (first | rfl | (refine eq_t ?_ ?_; focus (first | omega | assumption | (simp [inr_m1, h1, h3, r4, h3n, h5]; done) | (simp [inr_m1, h1, h3, r4, h3n, h5]; omega) | (clear hr; (try clear hkn); simp_all; done))) | (refine eq_f ?_ ?_; focus (first | omega | assumption | (simp [inr_m1, h1, h3, r4, h3n, h5]; done) | (simp [inr_m1, h1, h3, r4, h3n, h5]; omega) | (clear hr; (try clear hkn); simp_all; done))) | (exfalso; clear hr; (try clear hkn); simp_all; done)))), ⟨_, (show (wr (wr I 16 fd sz) 15 0 (nI (fd + 1))) = _ from (by first | rfl | (simp only [bq, ifc_T, ifc_F, inr_m1, and_true, true_and, and_false, false_and, or_true, true_or, or_false, false_or, not_true_eq_false, not_false_eq_true, and_self, or_self, h1, h3, r4, h3n, h5]; done) | (simp [bq, ifc_T, ifc_F, inr_m1, h1, h3, r4, h3n, h5]; done) | ((try simp only [bq]); repeat (first | rfl | (refine eq_t ?_ ?_; focus (first | omega | assumption | (simp [inr_m1, h1, h3, r4, h3n, h5]; done) | (simp [inr_m1, h1, h3, r4, h3n, h5]; omega) | (clear hr; (try clear hkn); simp_all; done))) | (refine eq_f ?_ ?_; focus (first | omega | assumption | (simp [inr_m1, h1, h3, r4, h3n, h5]; done) | (simp [inr_m1, h1, h3, r4, h3n, h5]; omega) | (clear hr; (try clear hkn); simp_all; done))) | (exfalso; clear hr; (try clear hkn); simp_all; done))))).trans (scC_self _)⟩, rfl, ⟨_, rfl⟩, rfl, rfl⟩)
      · -- fd ge 100
        refine v_bipush (v := (-4)) dX8_feed_25 (by decide) ?_
        exact v_iret hr dX8_feed_27 (⟨congrArg (fun z => some (Value.int z)) (by first | rfl | (simp only [bq, ifc_T, ifc_F, inr_m1, and_true, true_and, and_false, false_and, or_true, true_or, or_false, false_or, not_true_eq_false, not_false_eq_true, and_self, or_self, h1, h3, r4, h3n, h5]; done) | (simp [bq, ifc_T, ifc_F, inr_m1, h1, h3, r4, h3n, h5]; done) | ((try simp only [bq]); repeat (first | rfl | (refine eq_t ?_ ?_; focus (first | omega | assumption | (simp [inr_m1, h1, h3, r4, h3n, h5]; done) | (simp [inr_m1, h1, h3, r4, h3n, h5]; omega) | (clear hr; (try clear hkn); simp_all; done))) | (refine eq_f ?_ ?_; focus (first | omega | assumption | (simp [inr_m1, h1, h3, r4, h3n, h5]; done) | (simp [inr_m1, h1, h3, r4, h3n, h5]; omega) | (clear hr; (try clear hkn); simp_all; done))) | (exfalso; clear hr; (try clear hkn); simp_all; done)))), ⟨_, (show I = _ from (by first | rfl | (simp only [bq, ifc_T, ifc_F, inr_m1, and_true, true_and, and_false, false_and, or_true, true_or, or_false, false_or, not_true_eq_false, not_false_eq_true, and_self, or_self, h1, h3, r4, h3n, h5]; done) | (simp [bq, ifc_T, ifc_F, inr_m1, h1, h3, r4, h3n, h5]; done) | ((try simp only [bq]); repeat (first | rfl | (refine eq_t ?_ ?_; focus (first | omega | assumption | (simp [inr_m1, h1, h3, r4, h3n, h5]; done) | (simp [inr_m1, h1, h3, r4, h3n, h5]; omega) | (clear hr; (try clear hkn); simp_all; done))) | (refine eq_f ?_ ?_; focus (first | omega | assumption | (simp [inr_m1, h1, h3, r4, h3n, h5]; done) | (simp [inr_m1, h1, h3, r4, h3n, h5]; omega) | (clear hr; (try clear hkn); simp_all; done))) | (exfalso; clear hr; (try clear hkn); simp_all; done))))).trans (scC_self _)⟩, rfl, ⟨_, rfl⟩, rfl, rfl⟩)
    · -- sz gt 127
      have r6 : ¬ inr sz 128 := inr_gt (k := 127) (by omega) (Int32.not_le.mp h3)
      -- not inr sz 128
      have h3n := Int32.not_le.mp h3
      refine v_bipush (v := (-2)) dX8_feed_10 (by decide) ?_
      exact v_iret hr dX8_feed_12 (⟨congrArg (fun z => some (Value.int z)) (by first | rfl | (simp only [bq, ifc_T, ifc_F, inr_m1, and_true, true_and, and_false, false_and, or_true, true_or, or_false, false_or, not_true_eq_false, not_false_eq_true, and_self, or_self, h1, h3, r6, h3n]; done) | (simp [bq, ifc_T, ifc_F, inr_m1, h1, h3, r6, h3n]; done) | ((try simp only [bq]); repeat (first | rfl | (refine eq_t ?_ ?_; focus (first | omega | assumption | (simp [inr_m1, h1, h3, r6, h3n]; done) | (simp [inr_m1, h1, h3, r6, h3n]; omega) | (clear hr; (try clear hkn); simp_all; done))) | (refine eq_f ?_ ?_; focus (first | omega | assumption | (simp [inr_m1, h1, h3, r6, h3n]; done) | (simp [inr_m1, h1, h3, r6, h3n]; omega) | (clear hr; (try clear hkn); simp_all; done))) | (exfalso; clear hr; (try clear hkn); simp_all; done)))), ⟨_, (show I = _ from (by first | rfl | (simp only [bq, ifc_T, ifc_F, inr_m1, and_true, true_and, and_false, false_and, or_true, true_or, or_false, false_or, not_true_eq_false, not_false_eq_true, and_self, or_self, h1, h3, r6, h3n]; done) | (simp [bq, ifc_T, ifc_F, inr_m1, h1, h3, r6, h3n]; done) | ((try simp only [bq]); repeat (first | rfl | (refine eq_t ?_ ?_; focus (first | omega | assumption | (simp [inr_m1, h1, h3, r6, h3n]; done) | (simp [inr_m1, h1, h3, r6, h3n]; omega) | (clear hr; (try clear hkn); simp_all; done))) | (refine eq_f ?_ ?_; focus (first | omega | assumption | (simp [inr_m1, h1, h3, r6, h3n]; done) | (simp [inr_m1, h1, h3, r6, h3n]; omega) | (clear hr; (try clear hkn); simp_all; done))) | (exfalso; clear hr; (try clear hkn); simp_all; done))))).trans (scC_self _)⟩, rfl, ⟨_, rfl⟩, rfl, rfl⟩)
set_option maxRecDepth 100000 in
set_option maxHeartbeats 400000 in
theorem c_X8_count {g : Gl} {I : Ty} {L : TL} {na nt ni m : Nat} {nl : Nat → Nat} (wz : Int32)  : Ct g yX8_count cX8_count 2 (some .int) 0 0 0 [.ref (g.1 + 0), .int wz] I L (RT na nt ni) (NT nl) (NB + m) (PZ na ni m nl (some (.int (ifc (wz = 0) (I 23 1) (ifc (wz = 1) (I 0 7) (ifc (wz = 2) (I 2 0) (ifc (wz = 3) (I 4 0) (ifc (wz = 4) (I 6 0) (ifc (wz = 5) (I 15 0) (ifc (wz = 6) (I 18 0) (-2)))))))))) (I) L) := by
  refine ct_of (by decide +kernel) (Nat.le_of_ble_eq_true rfl) (fun F hnm hr => ?_)
  clear hnm
  show V g F cX8_count RX8 2 0 0 [(0, .ref (g.1 + 0)), (1, .int wz)] [] I L (RT na nt ni) (NT nl) (NB + m) 0 0
  refine v_iload_n dX8_count_0 rfl 1 rfl ?_
  by_cases k1_0 : wz = 0
  · refine v_is k1_0 ?_
    refine v_tabIn (off := 43) (tgt := 44) dX8_count_1 (by decide) (by decide) (by decide) (by decide) ?_
    refine v_aload_n dX8_count_44 rfl 0 rfl ?_
    refine v_get (v := .ref (g.1 + 23)) fa_X8_51 dX8_count_45 rfl (by decide) (ltn rfl) rfl ?_
    refine v_get (v := .int (I 23 1)) fa_X8_66 dX8_count_48 rfl (by decide) (ltn rfl) rfl ?_
    exact v_iret hr dX8_count_51 (⟨congrArg (fun z => some (Value.int z)) (by first | rfl | (simp only [bq, ifc_T, ifc_F, inr_m1, and_true, true_and, and_false, false_and, or_true, true_or, or_false, false_or, not_true_eq_false, not_false_eq_true, and_self, or_self, k1_0]; done) | (simp [bq, ifc_T, ifc_F, inr_m1, k1_0]; done) | ((try simp only [bq]); repeat (first | rfl | (refine eq_t ?_ ?_; focus (first | omega | assumption | (simp [inr_m1, k1_0]; done) | (simp [inr_m1, k1_0]; omega) | (clear hr; (try clear hkn); simp_all; done))) | (refine eq_f ?_ ?_; focus (first | omega | assumption | (simp [inr_m1, k1_0]; done) | (simp [inr_m1, k1_0]; omega) | (clear hr; (try clear hkn); simp_all; done))) | (exfalso; clear hr; (try clear hkn); simp_all; done)))), ⟨_, (show I = _ from rfl).trans (scC_self _)⟩, rfl, ⟨_, rfl⟩, rfl, rfl⟩)
  by_cases k1_1 : wz = 1
  · refine v_is k1_1 ?_
    refine v_tabIn (off := 51) (tgt := 52) dX8_count_1 (by decide) (by decide) (by decide) (by decide) ?_
    refine v_aload_n dX8_count_52 rfl 0 rfl ?_
    refine v_get (v := .int (I 0 7)) fa_X8_134 dX8_count_53 rfl (by decide) (ltn rfl) rfl ?_
    exact v_iret hr dX8_count_56 (⟨congrArg (fun z => some (Value.int z)) (by first | rfl | (simp only [bq, ifc_T, ifc_F, inr_m1, and_true, true_and, and_false, false_and, or_true, true_or, or_false, false_or, not_true_eq_false, not_false_eq_true, and_self, or_self, k1_1]; done) | (simp [bq, ifc_T, ifc_F, inr_m1, k1_1]; done) | ((try simp only [bq]); repeat (first | rfl | (refine eq_t ?_ ?_; focus (first | omega | assumption | (simp [inr_m1, k1_1]; done) | (simp [inr_m1, k1_1]; omega) | (clear hr; (try clear hkn); simp_all; done))) | (refine eq_f ?_ ?_; focus (first | omega | assumption | (simp [inr_m1, k1_1]; done) | (simp [inr_m1, k1_1]; omega) | (clear hr; (try clear hkn); simp_all; done))) | (exfalso; clear hr; (try clear hkn); simp_all; done)))), ⟨_, (show I = _ from rfl).trans (scC_self _)⟩, rfl, ⟨_, rfl⟩, rfl, rfl⟩)
  by_cases k1_2 : wz = 2
  · refine v_is k1_2 ?_
    refine v_tabIn (off := 56) (tgt := 57) dX8_count_1 (by decide) (by decide) (by decide) (by decide) ?_
    refine v_aload_n dX8_count_57 rfl 0 rfl ?_
    refine v_get (v := .ref (g.1 + 1)) fa_X8_12 dX8_count_58 rfl (by decide) (ltn rfl) rfl ?_
    refine v_get (v := .ref (g.1 + 2)) fa_X8_185 dX8_count_61 rfl (by decide) (ltn rfl) rfl ?_
    refine v_get (v := .int (I 2 0)) fa_X8_233 dX8_count_64 rfl (by decide) (ltn rfl) rfl ?_
    exact v_iret hr dX8_count_67 (⟨congrArg (fun z => some (Value.int z)) (by first | rfl | (simp only [bq, ifc_T, ifc_F, inr_m1, and_true, true_and, and_false, false_and, or_true, true_or, or_false, false_or, not_true_eq_false, not_false_eq_true, and_self, or_self, k1_2]; done) | (simp [bq, ifc_T, ifc_F, inr_m1, k1_2]; done) | ((try simp only [bq]); repeat (first | rfl | (refine eq_t ?_ ?_; focus (first | omega | assumption | (simp [inr_m1, k1_2]; done) | (simp [inr_m1, k1_2]; omega) | (clear hr; (try clear hkn); simp_all; done))) | (refine eq_f ?_ ?_; focus (first | omega | assumption | (simp [inr_m1, k1_2]; done) | (simp [inr_m1, k1_2]; omega) | (clear hr; (try clear hkn); simp_all; done))) | (exfalso; clear hr; (try clear hkn); simp_all; done)))), ⟨_, (show I = _ from rfl).trans (scC_self _)⟩, rfl, ⟨_, rfl⟩, rfl, rfl⟩)
  by_cases k1_3 : wz = 3
  · refine v_is k1_3 ?_
    refine v_tabIn (off := 67) (tgt := 68) dX8_count_1 (by decide) (by decide) (by decide) (by decide) ?_
    refine v_aload_n dX8_count_68 rfl 0 rfl ?_
    refine v_get (v := .ref (g.1 + 1)) fa_X8_12 dX8_count_69 rfl (by decide) (ltn rfl) rfl ?_
    refine v_get (v := .ref (g.1 + 4)) fa_X8_222 dX8_count_72 rfl (by decide) (ltn rfl) rfl ?_
    refine v_get (v := .int (I 4 0)) fa_X8_233 dX8_count_75 rfl (by decide) (ltn rfl) rfl ?_
    exact v_iret hr dX8_count_78 (⟨congrArg (fun z => some (Value.int z)) (by first | rfl | (simp only [bq, ifc_T, ifc_F, inr_m1, and_true, true_and, and_false, false_and, or_true, true_or, or_false, false_or, not_true_eq_false, not_false_eq_true, and_self, or_self, k1_3]; done) | (simp [bq, ifc_T, ifc_F, inr_m1, k1_3]; done) | ((try simp only [bq]); repeat (first | rfl | (refine eq_t ?_ ?_; focus (first | omega | assumption | (simp [inr_m1, k1_3]; done) | (simp [inr_m1, k1_3]; omega) | (clear hr; (try clear hkn); simp_all; done))) | (refine eq_f ?_ ?_; focus (first | omega | assumption | (simp [inr_m1, k1_3]; done) | (simp [inr_m1, k1_3]; omega) | (clear hr; (try clear hkn); simp_all; done))) | (exfalso; clear hr; (try clear hkn); simp_all; done)))), ⟨_, (show I = _ from rfl).trans (scC_self _)⟩, rfl, ⟨_, rfl⟩, rfl, rfl⟩)
  by_cases k1_4 : wz = 4
  · refine v_is k1_4 ?_
    refine v_tabIn (off := 78) (tgt := 79) dX8_count_1 (by decide) (by decide) (by decide) (by decide) ?_
    refine v_aload_n dX8_count_79 rfl 0 rfl ?_
    refine v_get (v := .ref (g.1 + 1)) fa_X8_12 dX8_count_80 rfl (by decide) (ltn rfl) rfl ?_
    refine v_get (v := .ref (g.1 + 6)) fa_X8_244 dX8_count_83 rfl (by decide) (ltn rfl) rfl ?_
    refine v_get (v := .int (I 6 0)) fa_X8_233 dX8_count_86 rfl (by decide) (ltn rfl) rfl ?_
    exact v_iret hr dX8_count_89 (⟨congrArg (fun z => some (Value.int z)) (by first | rfl | (simp only [bq, ifc_T, ifc_F, inr_m1, and_true, true_and, and_false, false_and, or_true, true_or, or_false, false_or, not_true_eq_false, not_false_eq_true, and_self, or_self, k1_4]; done) | (simp [bq, ifc_T, ifc_F, inr_m1, k1_4]; done) | ((try simp only [bq]); repeat (first | rfl | (refine eq_t ?_ ?_; focus (first | omega | assumption | (simp [inr_m1, k1_4]; done) | (simp [inr_m1, k1_4]; omega) | (clear hr; (try clear hkn); simp_all; done))) | (refine eq_f ?_ ?_; focus (first | omega | assumption | (simp [inr_m1, k1_4]; done) | (simp [inr_m1, k1_4]; omega) | (clear hr; (try clear hkn); simp_all; done))) | (exfalso; clear hr; (try clear hkn); simp_all; done)))), ⟨_, (show I = _ from rfl).trans (scC_self _)⟩, rfl, ⟨_, rfl⟩, rfl, rfl⟩)
  by_cases k1_5 : wz = 5
  · refine v_is k1_5 ?_
    refine v_tabIn (off := 89) (tgt := 90) dX8_count_1 (by decide) (by decide) (by decide) (by decide) ?_
    refine v_aload_n dX8_count_90 rfl 0 rfl ?_
    refine v_get (v := .ref (g.1 + 15)) fa_X8_24 dX8_count_91 rfl (by decide) (ltn rfl) rfl ?_
    refine v_get (v := .int (I 15 0)) fa_X8_128 dX8_count_94 rfl (by decide) (ltn rfl) rfl ?_
    exact v_iret hr dX8_count_97 (⟨congrArg (fun z => some (Value.int z)) (by first | rfl | (simp only [bq, ifc_T, ifc_F, inr_m1, and_true, true_and, and_false, false_and, or_true, true_or, or_false, false_or, not_true_eq_false, not_false_eq_true, and_self, or_self, k1_5]; done) | (simp [bq, ifc_T, ifc_F, inr_m1, k1_5]; done) | ((try simp only [bq]); repeat (first | rfl | (refine eq_t ?_ ?_; focus (first | omega | assumption | (simp [inr_m1, k1_5]; done) | (simp [inr_m1, k1_5]; omega) | (clear hr; (try clear hkn); simp_all; done))) | (refine eq_f ?_ ?_; focus (first | omega | assumption | (simp [inr_m1, k1_5]; done) | (simp [inr_m1, k1_5]; omega) | (clear hr; (try clear hkn); simp_all; done))) | (exfalso; clear hr; (try clear hkn); simp_all; done)))), ⟨_, (show I = _ from rfl).trans (scC_self _)⟩, rfl, ⟨_, rfl⟩, rfl, rfl⟩)
  by_cases k1_6 : wz = 6
  · refine v_is k1_6 ?_
    refine v_tabIn (off := 97) (tgt := 98) dX8_count_1 (by decide) (by decide) (by decide) (by decide) ?_
    refine v_aload_n dX8_count_98 rfl 0 rfl ?_
    refine v_get (v := .ref (g.1 + 18)) fa_X8_31 dX8_count_99 rfl (by decide) (ltn rfl) rfl ?_
    refine v_get (v := .int (I 18 0)) fa_X8_268 dX8_count_102 rfl (by decide) (ltn rfl) rfl ?_
    exact v_iret hr dX8_count_105 (⟨congrArg (fun z => some (Value.int z)) (by first | rfl | (simp only [bq, ifc_T, ifc_F, inr_m1, and_true, true_and, and_false, false_and, or_true, true_or, or_false, false_or, not_true_eq_false, not_false_eq_true, and_self, or_self, k1_6]; done) | (simp [bq, ifc_T, ifc_F, inr_m1, k1_6]; done) | ((try simp only [bq]); repeat (first | rfl | (refine eq_t ?_ ?_; focus (first | omega | assumption | (simp [inr_m1, k1_6]; done) | (simp [inr_m1, k1_6]; omega) | (clear hr; (try clear hkn); simp_all; done))) | (refine eq_f ?_ ?_; focus (first | omega | assumption | (simp [inr_m1, k1_6]; done) | (simp [inr_m1, k1_6]; omega) | (clear hr; (try clear hkn); simp_all; done))) | (exfalso; clear hr; (try clear hkn); simp_all; done)))), ⟨_, (show I = _ from rfl).trans (scC_self _)⟩, rfl, ⟨_, rfl⟩, rfl, rfl⟩)
  have t2 : wz.toInt < 0 ∨ 6 < wz.toInt := by
    rcases sw_out wz (0) (6) with h | h | ⟨ha, hb⟩
    · exact Or.inl h
    · exact Or.inr h
    · exfalso
      have hz : ∀ z : Int, 0 ≤ z → z ≤ 6 → z = 0 ∨ z = 1 ∨ z = 2 ∨ z = 3 ∨ z = 4 ∨ z = 5 ∨ z = 6 := by omega
      rcases hz _ ha hb with e | e | e | e | e | e | e
      · exact absurd (sw_eq (k := 0) e (by decide)) k1_0
      · exact absurd (sw_eq (k := 1) e (by decide)) k1_1
      · exact absurd (sw_eq (k := 2) e (by decide)) k1_2
      · exact absurd (sw_eq (k := 3) e (by decide)) k1_3
      · exact absurd (sw_eq (k := 4) e (by decide)) k1_4
      · exact absurd (sw_eq (k := 5) e (by decide)) k1_5
      · exact absurd (sw_eq (k := 6) e (by decide)) k1_6
  refine v_tabOut (tgt := 106) dX8_count_1 t2 (by decide) ?_
  refine v_bipush (v := (-2)) dX8_count_106 (by decide) ?_
  exact v_iret hr dX8_count_108 (⟨congrArg (fun z => some (Value.int z)) (by first | rfl | (simp only [bq, ifc_T, ifc_F, inr_m1, and_true, true_and, and_false, false_and, or_true, true_or, or_false, false_or, not_true_eq_false, not_false_eq_true, and_self, or_self, k1_0, k1_1, k1_2, k1_3, k1_4, k1_5, k1_6]; done) | (simp [bq, ifc_T, ifc_F, inr_m1, k1_0, k1_1, k1_2, k1_3, k1_4, k1_5, k1_6]; done) | ((try simp only [bq]); repeat (first | rfl | (refine eq_t ?_ ?_; focus (first | omega | assumption | (simp [inr_m1, k1_0, k1_1, k1_2, k1_3, k1_4, k1_5, k1_6]; done) | (simp [inr_m1, k1_0, k1_1, k1_2, k1_3, k1_4, k1_5, k1_6]; omega) | (clear hr; (try clear hkn); simp_all; done))) | (refine eq_f ?_ ?_; focus (first | omega | assumption | (simp [inr_m1, k1_0, k1_1, k1_2, k1_3, k1_4, k1_5, k1_6]; done) | (simp [inr_m1, k1_0, k1_1, k1_2, k1_3, k1_4, k1_5, k1_6]; omega) | (clear hr; (try clear hkn); simp_all; done))) | (exfalso; clear hr; (try clear hkn); simp_all; done)))), ⟨_, (show I = _ from rfl).trans (scC_self _)⟩, rfl, ⟨_, rfl⟩, rfl, rfl⟩)
theorem min20 {rn : Nat} (h : rn < 1000) : (if (20 : Int32) < nI rn then (20 : Int32) else nI rn) = nI (min rn 20) := by
  have e : ((20 : Int32) < nI rn) ↔ 20 < rn := nI_ltI (a := 20) (by omega) (by omega)
  by_cases q : 20 < rn
  · rw [if_pos (e.mpr q), Nat.min_eq_right (by omega)]; rfl
  · rw [if_neg (fun z => q (e.mp z)), Nat.min_eq_left (by omega)]
set_option maxRecDepth 100000 in
set_option maxHeartbeats 400000 in
theorem c_X0_kept {g : Gl} {I : Ty} {L : TL} {na nt ni m : Nat} {nl : Nat → Nat}  (rn : Nat) (hrn : rn < 1000) (hre : I 18 0 = nI rn) : Ct g yX0_kept cX0_kept 1 (some .int) 1 0 0 [.ref (g.1 + 18)] I L (RT na nt ni) (NT nl) (NB + m) (Ps (some (.int (nI (min rn 20)))) (I) L (RT na nt ni) (NT nl) (NB + m)) := by
  refine ct_of (by decide +kernel) (Nat.le_of_ble_eq_true rfl) (fun F hnm hr => ?_)
  clear hnm
  show V g F cX0_kept RX0 1 1 0 [(0, .ref (g.1 + 18))] [] I L (RT na nt ni) (NT nl) (NB + m) 0 0
  refine v_aload_n dX0_kept_0 rfl 0 rfl ?_
  refine v_get (v := .int (I 18 0)) fa_X0_15 dX0_kept_1 rfl (by decide) (ltn rfl) rfl ?_
  refine v_is hre ?_
  refine v_bipush (v := 20) dX0_kept_4 (by decide) ?_
  refine v_mmin lk_X0_19 dX0_kept_6 (by decide) (Nat.le_of_ble_eq_true rfl) ?_
  refine v_is (min20 hrn) ?_
  exact v_iret hr dX0_kept_9 (psi (by rfl) rfl)
theorem inr_min {x : Int32} {a b : Nat} : (inr x a ∧ inr x b) = inr x (min b a) := propext ⟨fun h => ⟨h.1.1, by have h1 := h.1.2; have h2 := h.2.2; omega⟩, fun h => ⟨⟨h.1, by have h1 := h.2; omega⟩, ⟨h.1, by have h1 := h.2; omega⟩⟩⟩
set_option maxRecDepth 100000 in
set_option maxHeartbeats 400000 in
theorem c_X8_trace {g : Gl} {I : Ty} {L : TL} {na nt ni m : Nat} {nl : Nat → Nat} (iz : Int32) (rn : Nat) (hrn : rn < 1000) (hre : I 18 0 = nI rn) : Ct g yX8_trace cX8_trace 2 (some .int) 2 0 0 [.ref (g.1 + 0), .int iz] I L (RT na nt ni) (NT nl) (NB + m) (PZ na ni m nl (some (.int (ifc (inr iz (min rn 20)) (I 19 (tn iz)) (-1)))) (I) L) := by
  refine ct_of (by decide +kernel) (Nat.le_of_ble_eq_true rfl) (fun F hnm hr => ?_)
  clear hnm
  show V g F cX8_trace RX8 2 2 0 [(0, .ref (g.1 + 0)), (1, .int iz)] [] I L (RT na nt ni) (NT nl) (NB + m) 0 0
  refine v_iload_n dX8_trace_0 rfl 1 rfl ?_
  refine v_if_lt (tgt := 15) dX8_trace_1 (by decide) (fun h1 => ?_) (fun h1 => ?_)
  · -- iz lt 0
    have r2 : ¬ inr iz (min rn 20) := inr_lo h1
    -- not inr iz (min rn 20)
    refine v_iconst (v := (-1)) dX8_trace_15 (by decide) ?_
    refine v_goto (tgt := 28) dX8_trace_16 (by decide) ?_
    exact v_iret hr dX8_trace_28 (⟨congrArg (fun z => some (Value.int z)) (by first | rfl | (simp only [bq, ifc_T, ifc_F, inr_m1, and_true, true_and, and_false, false_and, or_true, true_or, or_false, false_or, not_true_eq_false, not_false_eq_true, and_self, or_self, h1, r2, inr_min]; done) | (simp [bq, ifc_T, ifc_F, inr_m1, h1, r2, inr_min]; done) | ((try simp only [bq, inr_min]); repeat (first | rfl | (refine eq_t ?_ ?_; focus (first | omega | assumption | (simp [inr_m1, h1, r2]; done) | (simp [inr_m1, h1, r2]; omega) | (clear hr; (try clear hkn); simp_all; done))) | (refine eq_f ?_ ?_; focus (first | omega | assumption | (simp [inr_m1, h1, r2]; done) | (simp [inr_m1, h1, r2]; omega) | (clear hr; (try clear hkn); simp_all; done))) | (exfalso; clear hr; (try clear hkn); simp_all; done)))), ⟨_, (show I = _ from rfl).trans (scC_self _)⟩, rfl, ⟨_, rfl⟩, rfl, rfl⟩)
  · -- iz ge 0
    refine v_iload_n dX8_trace_4 rfl 1 rfl ?_
    refine v_aload_n dX8_trace_5 rfl 0 rfl ?_
    refine v_get (v := .ref (g.1 + 18)) fa_X8_31 dX8_trace_6 rfl (by decide) (ltn rfl) rfl ?_
    refine v_callVi (As := []) (rest := [.int iz]) lk_X8_275 (c_X0_kept rn hrn hre) dX8_trace_9 rfl (ltn rfl) rfl rfl (Nat.le_of_ble_eq_true rfl) (by decide) ?_
    refine v_icmp_lt (tgt := 19) dX8_trace_12 (by decide) (fun h3 => ?_) (fun h3 => ?_)
    · -- iz lt nI (min rn 20)
      have r4 : inr iz (min rn 20) := inr_mk (by omega) h1 (Int32.not_le.mpr h3)
      -- inr iz (min rn 20)
      obtain ⟨P5, rfl, l6, t7, u8⟩ := inr_ex r4 (by omega)
      refine v_aload_n dX8_trace_19 rfl 0 rfl ?_
      refine v_get (v := .ref (g.1 + 18)) fa_X8_31 dX8_trace_20 rfl (by decide) (ltn rfl) rfl ?_
      refine v_get (v := .ref (g.1 + 19)) fa_X8_278 dX8_trace_23 rfl (by decide) (ltn rfl) rfl ?_
      refine v_iload_n dX8_trace_26 rfl 1 rfl ?_
      refine v_iaload (len := 20) (j := P5) dX8_trace_27 rfl (ltn rfl) rfl (by decide) rfl (by omega) ?_
      exact v_iret hr dX8_trace_28 (⟨congrArg (fun z => some (Value.int z)) (by first | rfl | (simp only [bq, ifc_T, ifc_F, inr_m1, and_true, true_and, and_false, false_and, or_true, true_or, or_false, false_or, not_true_eq_false, not_false_eq_true, and_self, or_self, h1, h3, r4, t7, u8, l6, inr_min]; done) | (simp [bq, ifc_T, ifc_F, inr_m1, h1, h3, r4, t7, u8, l6, inr_min]; done) | ((try simp only [bq, inr_min]); repeat (first | rfl | (refine eq_t ?_ ?_; focus (first | omega | assumption | (simp [inr_m1, h1, h3, r4, t7, u8, l6]; done) | (simp [inr_m1, h1, h3, r4, t7, u8, l6]; omega) | (simp only [u8]; omega) | (clear hr; (try clear hkn); simp_all; done))) | (refine eq_f ?_ ?_; focus (first | omega | assumption | (simp [inr_m1, h1, h3, r4, t7, u8, l6]; done) | (simp [inr_m1, h1, h3, r4, t7, u8, l6]; omega) | (simp only [u8]; omega) | (clear hr; (try clear hkn); simp_all; done))) | (simp only [t7]; done) | (exfalso; clear hr; (try clear hkn); simp_all; done)))), ⟨_, (show I = _ from rfl).trans (scC_self _)⟩, rfl, ⟨_, rfl⟩, rfl, rfl⟩)
    · -- iz ge nI (min rn 20)
      have r9 : ¬ inr iz (min rn 20) := inr_hi (by omega) (Int32.not_lt.mp h3)
      -- not inr iz (min rn 20)
      refine v_iconst (v := (-1)) dX8_trace_15 (by decide) ?_
      refine v_goto (tgt := 28) dX8_trace_16 (by decide) ?_
      exact v_iret hr dX8_trace_28 (⟨congrArg (fun z => some (Value.int z)) (by first | rfl | (simp only [bq, ifc_T, ifc_F, inr_m1, and_true, true_and, and_false, false_and, or_true, true_or, or_false, false_or, not_true_eq_false, not_false_eq_true, and_self, or_self, h1, h3, r9, inr_min]; done) | (simp [bq, ifc_T, ifc_F, inr_m1, h1, h3, r9, inr_min]; done) | ((try simp only [bq, inr_min]); repeat (first | rfl | (refine eq_t ?_ ?_; focus (first | omega | assumption | (simp [inr_m1, h1, h3, r9]; done) | (simp [inr_m1, h1, h3, r9]; omega) | (clear hr; (try clear hkn); simp_all; done))) | (refine eq_f ?_ ?_; focus (first | omega | assumption | (simp [inr_m1, h1, h3, r9]; done) | (simp [inr_m1, h1, h3, r9]; omega) | (clear hr; (try clear hkn); simp_all; done))) | (exfalso; clear hr; (try clear hkn); simp_all; done)))), ⟨_, (show I = _ from rfl).trans (scC_self _)⟩, rfl, ⟨_, rfl⟩, rfl, rfl⟩)

/-! one traveller goes on -/
abbrev T3 : Type := (Nat → Int32) × (Nat → Int32) × (Nat → Int32)
noncomputable def fctV (p c : Nat) (k v ga h10 : Int32) (f : Int32) : Int32 := ifc (f = 0) (nI p) (ifc (f = 1) k (ifc (f = 2) v (ifc (f = 3) (nI c) (ifc (f = 4) ga h10))))
noncomputable def Wl (ga kd vv rw : Nat → Int32) (pp : Nat) (ns : (Int32 → Int32) → Int32 → Int32) (ho : Int32) (sp ch : Nat → Int32) (p c : Nat) : Int32 := welV kd vv sp ch rw pp (ns (fctV p c (kd p) (vv p) (ga c) (ho - ho / 10 * 10)) (ga c)) p c
theorem mwel_Wl (I : Ty) (pp p c : Nat) : mwel I pp p c = Wl (I 66) (I 67) (I 68) (I 73) pp (msum I) (I 65 1) (I 69) (I 71) p c := rfl
/-- the first cell of the shortest way -/
noncomputable def fstC (set : Int32) (b gl : Nat) : Nat := tn (stp (dst set gl) b)
noncomputable def go1 (ga kd vv gl rw : Nat → Int32) (pp : Nat) (ns : (Int32 → Int32) → Int32 → Int32) (ho : Int32) (less : Int32 → Int32) (s : T3) (p : Nat) : T3 :=
  ifc (gl p < 0) s (ifc (gl p = s.1 p) s (ifc (lw (s.2.1 p) (tn (s.1 p)) (tn (gl p)) < 0) s
    (ifc (0 < Wl ga kd vv rw pp ns ho s.1 s.2.1 p (fstC (s.2.1 p) (tn (s.1 p)) (tn (gl p)))) (va_up s.1 p (nI (fstC (s.2.1 p) (tn (s.1 p)) (tn (gl p)))), s.2.1, s.2.2)
      (s.1, va_up s.2.1 p (s.2.1 p ||| 1 <<< (nI (fstC (s.2.1 p) (tn (s.1 p)) (tn (gl p))) &&& 31)), va_up s.2.2 p (less (s.2.2 p))))))
def mput (I : Ty) (s : T3) : Ty := va_up (va_up (va_up I 69 s.1) 71 s.2.1) 72 s.2.2
def mget (I : Ty) : T3 := (I 69, I 71, I 72)
def lessM (most : Int32) (x : Int32) : Int32 := if x + 1 < most then x + 1 else most
theorem mput_self (I : Ty) : mput I (mget I) = I := by
  unfold mput mget
  funext j; unfold va_up
  by_cases h1 : j = 72
  · subst h1; rfl
  · by_cases h2 : j = 71
    · subst h2; simp
    · by_cases h3 : j = 69
      · subst h3; simp
      · simp [h1, h2, h3]
theorem mput_scr (I : Ty) (f h : Nat → Int32) (s : T3) : mput (scr I f h) s = scr (mput I s) f h := by
  unfold mput scr
  funext j; unfold va_up
  by_cases h1 : j = 72
  · subst h1; rfl
  · by_cases h2 : j = 71
    · subst h2; rfl
    · by_cases h3 : j = 69
      · subst h3; rfl
      · simp [h1, h2, h3]
theorem mput_mput (I : Ty) (s t : T3) : mput (mput I s) t = mput I t := by
  unfold mput
  funext j; unfold va_up
  by_cases h1 : j = 72
  · subst h1; rfl
  · by_cases h2 : j = 71
    · subst h2; rfl
    · by_cases h3 : j = 69
      · subst h3; rfl
      · simp [h1, h2, h3]
theorem near_stp {D : Nat → Nat} {c : Nat} (h : near D c < 99) : ∃ o, o < 16 ∧ stp D c = nI o := by
  obtain ⟨k, hk, hn, he⟩ := nearK_ex D c 4 h
  have he : D (nb c k) + 1 = near D c := he.symm
  unfold stp
  by_cases h0 : nb c 0 < 16 ∧ D (nb c 0) + 1 = near D c
  · exact ⟨_, h0.1, ifc_t h0⟩
  · rw [ifc_f h0]
    by_cases h1 : nb c 1 < 16 ∧ D (nb c 1) + 1 = near D c
    · exact ⟨_, h1.1, ifc_t h1⟩
    · rw [ifc_f h1]
      by_cases h2 : nb c 2 < 16 ∧ D (nb c 2) + 1 = near D c
      · exact ⟨_, h2.1, ifc_t h2⟩
      · rw [ifc_f h2]
        by_cases h3 : nb c 3 < 16 ∧ D (nb c 3) + 1 = near D c
        · exact ⟨_, h3.1, ifc_t h3⟩
        · exfalso
          rcases (show k = 0 ∨ k = 1 ∨ k = 2 ∨ k = 3 by omega) with rfl | rfl | rfl | rfl
          · exact h0 ⟨hn, he⟩
          · exact h1 ⟨hn, he⟩
          · exact h2 ⟨hn, he⟩
          · exact h3 ⟨hn, he⟩
theorem lw_pos {st : Int32} {b gl : Nat} (hbg : b ≠ gl) (h : ¬ lw st b gl < 0) : near (dst st gl) b < 99 := Classical.byContradiction fun z => h (by rw [lw, ifc_f hbg, ifc_f z]; decide)
theorem fstC_lt {st : Int32} {b gl : Nat} (hbg : b ≠ gl) (h : ¬ lw st b gl < 0) : fstC st b gl < 16 ∧ stp (dst st gl) b = nI (fstC st b gl) := by
  obtain ⟨o, ho, he⟩ := near_stp (lw_pos hbg h)
  unfold fstC
  rw [he, tn_nI (by omega)]
  exact ⟨ho, rfl⟩
set_option maxRecDepth 100000 in
set_option maxHeartbeats 400000 in
theorem c_X9_longWay {g : Gl} {I : Ty} {L : TL} {na nt ni m : Nat} {nl : Nat → Nat} (st : Int32) (bg : Nat) (gl : Nat) (hbg : bg < 16) (hgl : gl < 16) : Ct g yX9_longWay cX9_longWay 4 (some .int) 3 0 0 [.ref (g.1 + 65), .int st, .int (nI bg), .int (nI gl)] I L (RT na nt ni) (NT nl) (NB + m) (fun v I_ L_ R_ N_ n_ => v = some (.int (lw st bg gl)) ∧ (∃ hq : Nat → Int32, (∀ j, j < 16 → hq j = nI (dst st gl j)) ∧ I_ = scr I (I 83) hq) ∧ L_ = L ∧ R_ = RT na nt ni ∧ N_ = NT nl ∧ n_ = NB + m) := by
  refine ct_of (by decide +kernel) (Nat.le_of_ble_eq_true rfl) (fun F hnm hr => ?_)
  clear hnm
  show V g F cX9_longWay RX9 4 3 0 [(0, .ref (g.1 + 65)), (1, .int st), (2, .int (nI bg)), (3, .int (nI gl))] [] I L (RT na nt ni) (NT nl) (NB + m) 0 0
  refine v_aload_n dX9_longWay_0 rfl 0 rfl ?_
  refine v_iload_n dX9_longWay_1 rfl 1 rfl ?_
  refine v_iload_n dX9_longWay_2 rfl 3 rfl ?_
  refine v_callV (As := [.int st, .int (nI gl)]) (rest := []) lk_X9_330 (c_X9_layDistance st gl (by omega)) dX9_longWay_3 rfl (ltn rfl) rfl rfl (Nat.le_of_ble_eq_true rfl) (by decide) (Nat.zero_le _) (Nat.zero_le _) (fun v I1 L_ R_ N_ n_ q2 => ?_)
  obtain ⟨rfl, ⟨hq, hrow, rfl⟩, rfl, rfl, rfl, rfl⟩ := q2
  have hD9 : ∀ j, j < 16 → dst st gl j ≤ 99 := fun j hj => (dst_is st gl j hj).1
  refine v_iload_n dX9_longWay_6 rfl 2 rfl ?_
  refine v_iload_n dX9_longWay_7 rfl 3 rfl ?_
  refine v_icmp_neN (a := bg) (b := gl) (tgt := 13) dX9_longWay_8 (by decide) rfl rfl (by omega) (by omega) (fun h3 => ?_) (fun h3 => ?_)
  · -- bg ne gl
    refine v_aload_n dX9_longWay_13 rfl 0 rfl ?_
    refine v_iload_n dX9_longWay_14 rfl 2 rfl ?_
    refine v_callVi (As := [.int (nI bg)]) (rest := []) lk_X9_327 (c_X9_nearest (I := (scr I (I 83) hq)) bg hbg (dst st gl) hrow hD9) dX9_longWay_15 rfl (ltn rfl) rfl rfl (Nat.le_of_ble_eq_true rfl) (by decide) ?_
    have n94 : near (dst st gl) bg ≤ 99 := nearK_99 (dst st gl) bg 4
    refine v_bipush (v := 99) dX9_longWay_18 (by decide) ?_
    refine v_icmp_geN (a := (near (dst st gl) bg)) (b := 99) (tgt := 31) dX9_longWay_20 (by decide) rfl rfl (by omega) (by omega) (fun h5 => ?_) (fun h5 => ?_)
    · -- (near (dst st gl) bg) ge 99
      refine v_bipush (v := (-5)) dX9_longWay_31 (by decide) ?_
      exact v_iret hr dX9_longWay_33 (⟨congrArg (fun z => some (Value.int z)) (by unfold lw; first | rfl | (simp only [bq, ifc_T, ifc_F, inr_m1, and_true, true_and, and_false, false_and, or_true, true_or, or_false, false_or, not_true_eq_false, not_false_eq_true, and_self, or_self, h3, h5]; done) | (simp [bq, ifc_T, ifc_F, inr_m1, h3, h5]; done) | ((try simp only [bq]); repeat (first | rfl | (refine eq_t ?_ ?_; focus (first | omega | assumption | (simp [inr_m1, h3, h5]; done) | (simp [inr_m1, h3, h5]; omega) | (clear hr; (try clear hkn); simp_all; done))) | (refine eq_f ?_ ?_; focus (first | omega | assumption | (simp [inr_m1, h3, h5]; done) | (simp [inr_m1, h3, h5]; omega) | (clear hr; (try clear hkn); simp_all; done))) | (exfalso; clear hr; (try clear hkn); simp_all; done)))), ⟨hq, hrow, rfl⟩, rfl, rfl, rfl, rfl⟩)
    · -- (near (dst st gl) bg) lt 99
      refine v_aload_n dX9_longWay_23 rfl 0 rfl ?_
      refine v_iload_n dX9_longWay_24 rfl 2 rfl ?_
      refine v_callVi (As := [.int (nI bg)]) (rest := []) lk_X9_327 (c_X9_nearest (I := (scr I (I 83) hq)) bg hbg (dst st gl) hrow hD9) dX9_longWay_25 rfl (ltn rfl) rfl rfl (Nat.le_of_ble_eq_true rfl) (by decide) ?_
      have n96 : near (dst st gl) bg ≤ 99 := nearK_99 (dst st gl) bg 4
      refine v_goto (tgt := 33) dX9_longWay_28 (by decide) ?_
      exact v_iret hr dX9_longWay_33 (⟨congrArg (fun z => some (Value.int z)) (by unfold lw; first | rfl | (simp only [bq, ifc_T, ifc_F, inr_m1, and_true, true_and, and_false, false_and, or_true, true_or, or_false, false_or, not_true_eq_false, not_false_eq_true, and_self, or_self, h3, h5]; done) | (simp [bq, ifc_T, ifc_F, inr_m1, h3, h5]; done) | ((try simp only [bq]); repeat (first | rfl | (refine eq_t ?_ ?_; focus (first | omega | assumption | (simp [inr_m1, h3, h5]; done) | (simp [inr_m1, h3, h5]; omega) | (clear hr; (try clear hkn); simp_all; done))) | (refine eq_f ?_ ?_; focus (first | omega | assumption | (simp [inr_m1, h3, h5]; done) | (simp [inr_m1, h3, h5]; omega) | (clear hr; (try clear hkn); simp_all; done))) | (exfalso; clear hr; (try clear hkn); simp_all; done)))), ⟨hq, hrow, rfl⟩, rfl, rfl, rfl, rfl⟩)
  · -- bg eq gl
    refine v_iconst (v := 0) dX9_longWay_11 (by decide) ?_
    exact v_iret hr dX9_longWay_12 (⟨congrArg (fun z => some (Value.int z)) (by unfold lw; first | rfl | (simp only [bq, ifc_T, ifc_F, inr_m1, and_true, true_and, and_false, false_and, or_true, true_or, or_false, false_or, not_true_eq_false, not_false_eq_true, and_self, or_self, h3]; done) | (simp [bq, ifc_T, ifc_F, inr_m1, h3]; done) | ((try simp only [bq]); repeat (first | rfl | (refine eq_t ?_ ?_; focus (first | omega | assumption | (simp [inr_m1, h3]; done) | (simp [inr_m1, h3]; omega) | (clear hr; (try clear hkn); simp_all; done))) | (refine eq_f ?_ ?_; focus (first | omega | assumption | (simp [inr_m1, h3]; done) | (simp [inr_m1, h3]; omega) | (clear hr; (try clear hkn); simp_all; done))) | (exfalso; clear hr; (try clear hkn); simp_all; done)))), ⟨hq, hrow, rfl⟩, rfl, rfl, rfl, rfl⟩)

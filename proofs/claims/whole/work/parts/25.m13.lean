/-- which gate, and by it how soon -/
noncomputable def keyF (I : Ty) (pp p : Nat) : Nat → Int32 × Nat
  | 0 => (-5, arvN (I 66) I pp p)
  | c + 1 => ifc (arvN (va_up (I 66) c 9) I pp p < (keyF I pp p c).2) (nI c, arvN (va_up (I 66) c 9) I pp p) (keyF I pp p c)
theorem keyF_le (I : Ty) (pp p : Nat) : ∀ c, (keyF I pp p c).2 ≤ 41
  | 0 => arvN_le _ _ _ _
  | c + 1 => by
    show (ifc _ _ _ : Int32 × Nat).2 ≤ 41
    by_cases h : arvN (va_up (I 66) c 9) I pp p < (keyF I pp p c).2
    · rw [ifc_t h]; exact arvN_le _ _ _ _
    · rw [ifc_f h]; exact keyF_le I pp p c
theorem keyF_t {I : Ty} {pp p c : Nat} (h : arvN (va_up (I 66) c 9) I pp p < (keyF I pp p c).2) : keyF I pp p (c + 1) = (nI c, arvN (va_up (I 66) c 9) I pp p) := ifc_t h
theorem keyF_f {I : Ty} {pp p c : Nat} (h : (keyF I pp p c).2 ≤ arvN (va_up (I 66) c 9) I pp p) : keyF I pp p (c + 1) = keyF I pp p c := ifc_f (Nat.not_lt.mpr h)
set_option maxRecDepth 100000 in
set_option maxHeartbeats 2000000 in
theorem c_X9_key {g : Gl} {I : Ty} {L : TL} {na nt ni m : Nat} {nl : Nat → Nat} (p : Nat) (pp : Nat) (hpp : pp ≤ 6) (hpe : I 65 0 = nI pp) (hp : p < 6) (hN : mOK I) (hS : okS (mget I)) (hG : okG (I 70)) (hM : I 65 29 = 9999) : Ct g yX9_key cX9_key 6 (some .int) 8 0 0 [.ref (g.1 + 65), .int (nI p)] I L (RT na nt ni) (NT nl) (NB + m) (Pk (some (.int ((keyF I pp p 16).1))) (I) L (RT na nt ni) (NT nl) (NB + m)) := by
  refine ct_of (by decide +kernel) (Nat.le_of_ble_eq_true rfl) (fun F hnm hr => ?_)
  clear hnm
  show V g F cX9_key RX9 6 8 0 [(0, .ref (g.1 + 65)), (1, .int (nI p))] [] I L (RT na nt ni) (NT nl) (NB + m) 0 0
  refine v_bipush (v := (-5)) dX9_key_0 (by decide) ?_
  refine v_istore_n (lv2 := [(2, .int (-5)), (0, .ref (g.1 + 65)), (1, .int (nI p))]) dX9_key_2 rfl (by decide) rfl ?_
  refine v_aload_n dX9_key_3 rfl 1 rfl ?_
  refine v_iload_n dX9_key_4 rfl 2 rfl ?_
  refine v_callVki (As := [.int (nI p)]) (rest := []) lk_X9_365 (c_X9_arrives p pp hpp hpe hp hN hS hG hM) dX9_key_5 rfl (ltn rfl) rfl rfl (Nat.le_of_ble_eq_true rfl) (by decide) (fun fq1 hq2 => ?_)
  refine v_is (arvN_eq (I 66) I pp p) ?_
  have av3 := arvN_le (I 66) I pp p
  refine v_istore_n (lv2 := [(3, .int (nI (arvN (I 66) I pp p))), (2, .int (-5)), (0, .ref (g.1 + 65)), (1, .int (nI p))]) dX9_key_8 rfl (by decide) rfl ?_
  refine v_iconst (v := 0) dX9_key_9 (by decide) ?_
  refine v_istore (lv2 := [(4, .int 0), (3, .int (nI (arvN (I 66) I pp p))), (2, .int (-5)), (0, .ref (g.1 + 65)), (1, .int (nI p))]) dX9_key_10 (by decide) rfl ?_
  refine v_lv (lv2 := [(4, .int (nI 0)), (3, .int (nI ((keyF I pp p 0).2))), (2, .int ((keyF I pp p 0).1)), (0, .ref (g.1 + 65)), (1, .int (nI p))]) (by rfl) ?_
  refine dloop (P := fun i => ∀ (kpq : Ty) (khq : Int32), V g F cX9_key RX9 6 8 12 [(4, .int (nI i)), (3, .int (nI ((keyF I pp p i).2))), (2, .int ((keyF I pp p i).1)), (0, .ref (g.1 + 65)), (1, .int (nI p))] [] (sck I kpq khq) L (RT na nt ni) (NT nl) (NB + m) 0 0) 16 ?_ ?_ 0 (Nat.zero_le _) fq1 hq2
  · intro kpq khq
    refine v_iload dX9_key_12 0 rfl ?_
    refine v_bipush (v := 16) dX9_key_14 (by decide) ?_
    refine v_icmp_geN (a := 16) (b := 16) (tgt := 49) dX9_key_16 (by decide) rfl rfl (by omega) (by omega) (fun h4 => ?_) (fun h => by exfalso; omega)
    refine v_iload_n dX9_key_49 rfl 2 rfl ?_
    exact v_iret hr dX9_key_50 (⟨rfl, ⟨_, _, rfl⟩, rfl, rfl, rfl, rfl⟩)
  · intro i hi ih
    intro kpq khq
    have hkl := keyF_le I pp p i
    refine v_iload dX9_key_12 0 rfl ?_
    refine v_bipush (v := 16) dX9_key_14 (by decide) ?_
    refine v_icmp_geN (a := i) (b := 16) (tgt := 49) dX9_key_16 (by decide) rfl rfl (by omega) (by omega) (fun h => by exfalso; omega) (fun h5 => ?_)
    refine v_aload_n dX9_key_19 rfl 3 rfl ?_
    refine v_iload_n dX9_key_20 rfl 4 rfl ?_
    refine v_iload dX9_key_21 0 rfl ?_
    refine v_callVki (As := [.int (nI p), .int (nI i)]) (rest := []) lk_X9_368 (c_X9_arrivesBy (I := (sck I kpq khq)) p i (by omega) pp hpp hpe hp hN hS hG hM) dX9_key_23 rfl (ltn rfl) rfl rfl (Nat.le_of_ble_eq_true rfl) (by decide) (fun fq6 hq7 => ?_)
    refine v_is (y := nI (arvN (va_up (I 66) i 9) I pp p)) rfl ?_
    refine v_I (sck_sck _ _ _ _ _) ?_
    have av8 := arvN_le (va_up (I 66) i 9) I pp p
    refine v_istore (lv2 := [(5, .int (nI (arvN (va_up (I 66) i 9) I pp p))), (4, .int (nI i)), (3, .int (nI ((keyF I pp p i).2))), (2, .int ((keyF I pp p i).1)), (0, .ref (g.1 + 65)), (1, .int (nI p))]) dX9_key_26 (by decide) rfl ?_
    refine v_iload dX9_key_28 0 rfl ?_
    refine v_iload_n dX9_key_30 rfl 2 rfl ?_
    refine v_icmp_ltN (a := (arvN (va_up (I 66) i 9) I pp p)) (b := ((keyF I pp p i).2)) (tgt := 37) dX9_key_31 (by decide) rfl rfl (by omega) (by omega) (fun h9 => ?_) (fun h9 => ?_)
    · -- (arvN (va_up (I 66) i 9) I pp p) lt ((keyF I pp p i).2)
      refine v_iload dX9_key_37 1 rfl ?_
      refine v_istore_n (lv2 := [(2, .int (nI i)), (5, .int (nI (arvN (va_up (I 66) i 9) I pp p))), (4, .int (nI i)), (3, .int (nI ((keyF I pp p i).2))), (0, .ref (g.1 + 65)), (1, .int (nI p))]) dX9_key_39 rfl (by decide) rfl ?_
      refine v_iload dX9_key_40 1 rfl ?_
      refine v_istore_n (lv2 := [(3, .int (nI (arvN (va_up (I 66) i 9) I pp p))), (2, .int (nI i)), (5, .int (nI (arvN (va_up (I 66) i 9) I pp p))), (4, .int (nI i)), (0, .ref (g.1 + 65)), (1, .int (nI p))]) dX9_key_42 rfl (by decide) rfl ?_
      refine v_inc (v := nI (i + 1)) (lv2 := [(4, .int (nI (i + 1))), (3, .int (nI (arvN (va_up (I 66) i 9) I pp p))), (2, .int (nI i)), (5, .int (nI (arvN (va_up (I 66) i 9) I pp p))), (0, .ref (g.1 + 65)), (1, .int (nI p))]) dX9_key_43 3 rfl (nx_inc rfl) (by decide) rfl ?_
      refine v_goto (tgt := 12) dX9_key_46 (by decide) ?_
      refine v_sub (lv2 := [(4, .int (nI (i + 1))), (3, .int (nI (arvN (va_up (I 66) i 9) I pp p))), (2, .int (nI i)), (0, .ref (g.1 + 65)), (1, .int (nI p))]) [0, 1, 2, 4, 5] rfl ?_
      refine v_lv (lv2 := [(4, .int (nI (i + 1))), (3, .int (nI ((keyF I pp p (i + 1)).2))), (2, .int ((keyF I pp p (i + 1)).1)), (0, .ref (g.1 + 65)), (1, .int (nI p))]) (by rw [keyF_t h9]) ?_
      exact ih _ _
    · -- (arvN (va_up (I 66) i 9) I pp p) ge ((keyF I pp p i).2)
      refine v_goto (tgt := 43) dX9_key_34 (by decide) ?_
      refine v_inc (v := nI (i + 1)) (lv2 := [(4, .int (nI (i + 1))), (5, .int (nI (arvN (va_up (I 66) i 9) I pp p))), (3, .int (nI ((keyF I pp p i).2))), (2, .int ((keyF I pp p i).1)), (0, .ref (g.1 + 65)), (1, .int (nI p))]) dX9_key_43 1 rfl (nx_inc rfl) (by decide) rfl ?_
      refine v_goto (tgt := 12) dX9_key_46 (by decide) ?_
      refine v_sub (lv2 := [(4, .int (nI (i + 1))), (3, .int (nI ((keyF I pp p i).2))), (2, .int ((keyF I pp p i).1)), (0, .ref (g.1 + 65)), (1, .int (nI p))]) [0, 2, 3, 4, 5] rfl ?_
      refine v_lv (lv2 := [(4, .int (nI (i + 1))), (3, .int (nI ((keyF I pp p (i + 1)).2))), (2, .int ((keyF I pp p (i + 1)).1)), (0, .ref (g.1 + 65)), (1, .int (nI p))]) (by rw [keyF_f h9]) ?_
      exact ih _ _
noncomputable def drw (ch : Nat → Int32) (p : Nat) (st : Int32) : Nat → Int32
  | 0 => ch p
  | o + 1 => drw ch p st o ||| ifc (hb st o) (ch o) 0
set_option maxRecDepth 100000 in
set_option maxHeartbeats 400000 in
theorem c_X9_drawnBy {g : Gl} {I : Ty} {L : TL} {na nt ni m : Nat} {nl : Nat → Nat} (p : Nat) (st : Int32) (pp : Nat) (hpp : pp ≤ 6) (hpe : I 65 0 = nI pp) (hp : p < 6) : Ct g yX9_drawnBy cX9_drawnBy 5 (some .int) 1 0 0 [.ref (g.1 + 65), .int (nI p), .int st] I L (RT na nt ni) (NT nl) (NB + m) (Ps (some (.int (drw (I 71) p st pp))) (I) L (RT na nt ni) (NT nl) (NB + m)) := by
  refine ct_of (by decide +kernel) (Nat.le_of_ble_eq_true rfl) (fun F hnm hr => ?_)
  clear hnm
  show V g F cX9_drawnBy RX9 5 1 0 [(0, .ref (g.1 + 65)), (1, .int (nI p)), (2, .int st)] [] I L (RT na nt ni) (NT nl) (NB + m) 0 0
  refine v_aload_n dX9_drawnBy_0 rfl 0 rfl ?_
  refine v_get (v := .ref (g.1 + 71)) fa_X9_32 dX9_drawnBy_1 rfl (by decide) (ltn rfl) rfl ?_
  refine v_iload_n dX9_drawnBy_4 rfl 1 rfl ?_
  refine v_iaload (len := 6) (j := p) dX9_drawnBy_5 rfl (ltn rfl) rfl (by decide) rfl (by omega) ?_
  refine v_istore_n (lv2 := [(3, .int (I 71 p)), (0, .ref (g.1 + 65)), (1, .int (nI p)), (2, .int st)]) dX9_drawnBy_6 rfl (by decide) rfl ?_
  refine v_iconst (v := 0) dX9_drawnBy_7 (by decide) ?_
  refine v_istore (lv2 := [(4, .int 0), (3, .int (I 71 p)), (0, .ref (g.1 + 65)), (1, .int (nI p)), (2, .int st)]) dX9_drawnBy_8 (by decide) rfl ?_
  refine v_lv (lv2 := [(4, .int (nI 0)), (3, .int (drw (I 71) p st 0)), (0, .ref (g.1 + 65)), (1, .int (nI p)), (2, .int st)]) (by rfl) ?_
  refine dloop (P := fun i => V g F cX9_drawnBy RX9 5 1 10 [(4, .int (nI i)), (3, .int (drw (I 71) p st i)), (0, .ref (g.1 + 65)), (1, .int (nI p)), (2, .int st)] [] I L (RT na nt ni) (NT nl) (NB + m) 0 0) pp ?_ ?_ 0 (Nat.zero_le _)
  · refine v_iload dX9_drawnBy_10 0 rfl ?_
    refine v_aload_n dX9_drawnBy_12 rfl 2 rfl ?_
    refine v_get (v := .int (I 65 0)) fa_X9_7 dX9_drawnBy_13 rfl (by decide) (ltn rfl) rfl ?_
    refine v_is hpe ?_
    refine v_icmp_geN (a := pp) (b := pp) (tgt := 49) dX9_drawnBy_16 (by decide) rfl rfl (by omega) (by omega) (fun h1 => ?_) (fun h => by exfalso; omega)
    refine v_iload_n dX9_drawnBy_49 rfl 1 rfl ?_
    exact v_iret hr dX9_drawnBy_50 (psi rfl rfl)
  · intro i hi ih
    refine v_iload dX9_drawnBy_10 0 rfl ?_
    refine v_aload_n dX9_drawnBy_12 rfl 2 rfl ?_
    refine v_get (v := .int (I 65 0)) fa_X9_7 dX9_drawnBy_13 rfl (by decide) (ltn rfl) rfl ?_
    refine v_is hpe ?_
    refine v_icmp_geN (a := i) (b := pp) (tgt := 49) dX9_drawnBy_16 (by decide) rfl rfl (by omega) (by omega) (fun h => by exfalso; omega) (fun h2 => ?_)
    refine v_iload_n dX9_drawnBy_19 rfl 1 rfl ?_
    refine v_aload_n dX9_drawnBy_20 rfl 2 rfl ?_
    refine v_iload_n dX9_drawnBy_21 rfl 4 rfl ?_
    refine v_iload dX9_drawnBy_22 0 rfl ?_
    refine v_callVi (As := [.int st, .int (nI i)]) (rest := [.int (drw (I 71) p st i)]) lk_X9_233 (c_hasN st i) dX9_drawnBy_24 rfl (ltn rfl) rfl rfl (Nat.le_of_ble_eq_true rfl) (by decide) ?_
    refine v_ifb_eq (tgt := 40) dX9_drawnBy_27 (by decide) (fun h3 => ?_) (fun h3 => ?_)
    · -- not hb st i
      refine v_iconst (v := 0) dX9_drawnBy_40 (by decide) ?_
      refine v_ior dX9_drawnBy_41 ?_
      refine v_istore_n (lv2 := [(3, .int ((drw (I 71) p st i) ||| 0)), (4, .int (nI i)), (0, .ref (g.1 + 65)), (1, .int (nI p)), (2, .int st)]) dX9_drawnBy_42 rfl (by decide) rfl ?_
      refine v_inc (v := nI (i + 1)) (lv2 := [(4, .int (nI (i + 1))), (3, .int ((drw (I 71) p st i) ||| 0)), (0, .ref (g.1 + 65)), (1, .int (nI p)), (2, .int st)]) dX9_drawnBy_43 1 rfl (nx_inc rfl) (by decide) rfl ?_
      refine v_goto (tgt := 10) dX9_drawnBy_46 (by decide) ?_
      refine v_lv (lv2 := [(4, .int (nI (i + 1))), (3, .int (drw (I 71) p st (i + 1))), (0, .ref (g.1 + 65)), (1, .int (nI p)), (2, .int st)]) (by simp only [drw, ifc_f h3]) ?_
      exact ih
    · -- hb st i
      refine v_aload_n dX9_drawnBy_30 rfl 2 rfl ?_
      refine v_get (v := .ref (g.1 + 71)) fa_X9_32 dX9_drawnBy_31 rfl (by decide) (ltn rfl) rfl ?_
      refine v_iload dX9_drawnBy_34 0 rfl ?_
      refine v_iaload (len := 6) (j := i) dX9_drawnBy_36 rfl (ltn rfl) rfl (by decide) rfl (by omega) ?_
      refine v_goto (tgt := 41) dX9_drawnBy_37 (by decide) ?_
      refine v_ior dX9_drawnBy_41 ?_
      refine v_istore_n (lv2 := [(3, .int ((drw (I 71) p st i) ||| I 71 i)), (4, .int (nI i)), (0, .ref (g.1 + 65)), (1, .int (nI p)), (2, .int st)]) dX9_drawnBy_42 rfl (by decide) rfl ?_
      refine v_inc (v := nI (i + 1)) (lv2 := [(4, .int (nI (i + 1))), (3, .int ((drw (I 71) p st i) ||| I 71 i)), (0, .ref (g.1 + 65)), (1, .int (nI p)), (2, .int st)]) dX9_drawnBy_43 1 rfl (nx_inc rfl) (by decide) rfl ?_
      refine v_goto (tgt := 10) dX9_drawnBy_46 (by decide) ?_
      refine v_lv (lv2 := [(4, .int (nI (i + 1))), (3, .int (drw (I 71) p st (i + 1))), (0, .ref (g.1 + 65)), (1, .int (nI p)), (2, .int st)]) (by simp only [drw, ifc_t h3]) ?_
      exact ih
theorem rch_nb {st : Int32} {gl : Nat} : ∀ {d x : Nat}, rch st gl d x → ¬ hb st x
  | 0, _, h => by obtain ⟨rfl, h2⟩ := h; exact h2
  | _ + 1, _, h => h.elim rch_nb (fun z => z.1)
theorem dst_near {st : Int32} {gl x : Nat} (hx : x < 16) (hs : ¬ hb st x) (hne : x ≠ gl) : near (dst st gl) x = dst st gl x := by
  obtain ⟨a1, a2, a3⟩ := dst_is st gl x hx
  apply Nat.le_antisymm
  · by_cases h : dst st gl x < 99
    · have hr := a3 h
      have hm : ∀ d, d < dst st gl x → ¬ rch st gl d x := fun d hd hr => absurd (a2 d hr) (by omega)
      cases hd : dst st gl x with
      | zero => rw [hd] at hr; exact absurd hr.1 hne
      | succ d =>
        rw [hd] at hr
        rcases hr with hr | ⟨_, k, hk, hn, hr⟩
        · exact absurd hr (hm d (by omega))
        · have h1 : near (dst st gl) x ≤ dst st gl (nb x k) + 1 := nearK_le _ _ 4 k hk hn
          have h2 := (dst_is st gl _ hn).2.1 d hr
          omega
    · have := nearK_99 (dst st gl) x 4
      show nearK _ _ 4 ≤ _
      omega
  · by_cases h : near (dst st gl) x < 99
    · obtain ⟨k, hk, hn, he⟩ := nearK_ex (dst st gl) x 4 h
      have he : near (dst st gl) x = dst st gl (nb x k) + 1 := he
      rw [he]
      exact a2 _ (Or.inr ⟨hs, k, hk, hn, (dst_is st gl _ hn).2.2 (by omega)⟩)
    · omega
/-- the cell behind k steps -/
noncomputable def pth (D : Nat → Nat) (s : Nat) : Nat → Nat
  | 0 => s
  | k + 1 => tn (stp D (pth D s k))
/-- how many cells the shortest way has, 99 or more: there is none -/
noncomputable def lwn (st : Int32) (b gl : Nat) : Nat := ifc (b = gl) 0 (near (dst st gl) b)
theorem lw_lwn (st : Int32) (b gl : Nat) : lw st b gl = ifc (lwn st b gl < 99) (nI (lwn st b gl)) (-5) := by
  unfold lw lwn
  by_cases h : b = gl
  · rw [ifc_t h, ifc_t h, ifc_t (by decide)]; rfl
  · rw [ifc_f h, ifc_f h]
theorem near_stpD {D : Nat → Nat} {c : Nat} (h : near D c < 99) : ∃ o, o < 16 ∧ stp D c = nI o ∧ D o + 1 = near D c := by
  obtain ⟨k, hk, hn, he⟩ := nearK_ex D c 4 h
  have he : D (nb c k) + 1 = near D c := he.symm
  unfold stp
  by_cases h0 : nb c 0 < 16 ∧ D (nb c 0) + 1 = near D c
  · exact ⟨_, h0.1, ifc_t h0, h0.2⟩
  · rw [ifc_f h0]
    by_cases h1 : nb c 1 < 16 ∧ D (nb c 1) + 1 = near D c
    · exact ⟨_, h1.1, ifc_t h1, h1.2⟩
    · rw [ifc_f h1]
      by_cases h2 : nb c 2 < 16 ∧ D (nb c 2) + 1 = near D c
      · exact ⟨_, h2.1, ifc_t h2, h2.2⟩
      · rw [ifc_f h2]
        by_cases h3 : nb c 3 < 16 ∧ D (nb c 3) + 1 = near D c
        · exact ⟨_, h3.1, ifc_t h3, h3.2⟩
        · exfalso
          rcases (show k = 0 ∨ k = 1 ∨ k = 2 ∨ k = 3 by omega) with rfl | rfl | rfl | rfl
          · exact h0 ⟨hn, he⟩
          · exact h1 ⟨hn, he⟩
          · exact h2 ⟨hn, he⟩
          · exact h3 ⟨hn, he⟩
theorem dst_0 {st : Int32} {gl x : Nat} (hx : x < 16) (h : dst st gl x = 0) : x = gl := by
  have := (dst_is st gl x hx).2.2 (by omega)
  rw [h] at this
  exact this.1
/-- on the way: the k-th cell lies so far from the end -/
theorem pth_on {st : Int32} {b gl : Nat} (hb0 : b < 16) (hl : lwn st b gl < 99) : ∀ k, k ≤ lwn st b gl → pth (dst st gl) b k < 16 ∧ (k < lwn st b gl → stp (dst st gl) (pth (dst st gl) b k) = nI (pth (dst st gl) b (k + 1)) ∧ pth (dst st gl) b (k + 1) < 16 ∧ dst st gl (pth (dst st gl) b (k + 1)) + (k + 1) = lwn st b gl) := by
  intro k
  induction k with
  | zero =>
    intro _
    refine ⟨hb0, fun h => ?_⟩
    have hne : ¬ b = gl := fun e => by unfold lwn at h; rw [ifc_t e] at h; exact absurd h (Nat.lt_irrefl _)
    have hw : lwn st b gl = near (dst st gl) b := ifc_f hne
    rw [hw] at hl ⊢
    obtain ⟨o, ho, he, hd⟩ := near_stpD hl
    have hp : pth (dst st gl) b (0 + 1) = o := by
      show tn (stp (dst st gl) b) = o
      rw [he, tn_nI (by omega)]
    rw [hp]
    exact ⟨he, ho, by omega⟩
  | succ k ih =>
    intro hk
    obtain ⟨h1, h2⟩ := ih (by omega)
    obtain ⟨h3, h4, h5⟩ := h2 (by omega)
    refine ⟨h4, fun h => ?_⟩
    have hd : dst st gl (pth (dst st gl) b (k + 1)) < 99 := by omega
    have hne : pth (dst st gl) b (k + 1) ≠ gl := by
      intro e
      have hr := (dst_is st gl _ h4).2.2 hd
      have h0 := (dst_is st gl _ h4).2.1 0 ⟨e, e ▸ rch_nb hr⟩
      omega
    have hn := dst_near h4 (rch_nb ((dst_is st gl _ h4).2.2 hd)) hne
    obtain ⟨o, ho, he, hdo⟩ := near_stpD (by rw [hn]; exact hd : near (dst st gl) (pth (dst st gl) b (k + 1)) < 99)
    have hp : pth (dst st gl) b (k + 1 + 1) = o := by
      show tn (stp (dst st gl) (pth (dst st gl) b (k + 1))) = o
      rw [he, tn_nI (by omega)]
    rw [hp]
    exact ⟨he, ho, by omega⟩
/-- whether there is a shortest way by the set that goes through none of the others -/
def lead (st rf : Int32) (b gl : Nat) : Prop := lwn st b gl < 99 ∧ ∀ k, k < lwn st b gl → ¬ hb rf (pth (dst st gl) b (k + 1))
theorem lwn_le (st : Int32) (b gl : Nat) : lwn st b gl ≤ 99 := by
  unfold lwn
  by_cases h : b = gl
  · rw [ifc_t h]; decide
  · rw [ifc_f h]; exact nearK_99 _ _ 4
set_option maxRecDepth 100000 in
set_option maxHeartbeats 2000000 in
theorem c_X9_leadsRight {g : Gl} {I : Ty} {L : TL} {na nt ni m : Nat} {nl : Nat → Nat} (p : Nat) (dr : Int32) (rf : Int32) (sz gz : Nat) (hp : p < 6) (hsz : sz < 16) (hes : I 69 p = nI sz) (hgz : gz < 16) (heg : I 70 p = nI gz) : Ct g yX9_leadsRight cX9_leadsRight 7 (some .boolean) 4 0 0 [.ref (g.1 + 65), .int (nI p), .int dr, .int rf] I L (RT na nt ni) (NT nl) (NB + m) (Pq (some (.int (bq (lead dr rf sz gz)))) I L (RT na nt ni) (NT nl) (NB + m)) := by
  refine ct_of (by decide +kernel) (Nat.le_of_ble_eq_true rfl) (fun F hnm hr => ?_)
  clear hnm
  show V g F cX9_leadsRight RX9 7 4 0 [(0, .ref (g.1 + 65)), (1, .int (nI p)), (2, .int dr), (3, .int rf)] [] I L (RT na nt ni) (NT nl) (NB + m) 0 0
  have hl9 := lwn_le dr sz gz
  refine v_aload_n dX9_leadsRight_0 rfl 0 rfl ?_
  refine v_iload_n dX9_leadsRight_1 rfl 2 rfl ?_
  refine v_aload_n dX9_leadsRight_2 rfl 0 rfl ?_
  refine v_get (v := .ref (g.1 + 69)) fa_X9_26 dX9_leadsRight_3 rfl (by decide) (ltn rfl) rfl ?_
  refine v_iload_n dX9_leadsRight_6 rfl 1 rfl ?_
  refine v_iaload (len := 6) (j := p) dX9_leadsRight_7 rfl (ltn rfl) rfl (by decide) rfl (by omega) ?_
  refine v_is (y := nI sz) hes ?_
  refine v_aload_n dX9_leadsRight_8 rfl 0 rfl ?_
  refine v_get (v := .ref (g.1 + 70)) fa_X9_29 dX9_leadsRight_9 rfl (by decide) (ltn rfl) rfl ?_
  refine v_iload_n dX9_leadsRight_12 rfl 1 rfl ?_
  refine v_iaload (len := 6) (j := p) dX9_leadsRight_13 rfl (ltn rfl) rfl (by decide) rfl (by omega) ?_
  refine v_is (y := nI gz) heg ?_
  refine v_callV (As := [.int dr, .int (nI sz), .int (nI gz)]) (rest := []) lk_X9_334 (c_X9_longWay dr sz gz (by omega) (by omega)) dX9_leadsRight_14 rfl (ltn rfl) rfl rfl (Nat.le_of_ble_eq_true rfl) (by decide) (Nat.zero_le _) (Nat.zero_le _) (fun v I1 L_ R_ N_ n_ q2 => ?_)
  obtain ⟨rfl, ⟨hq, hrow, rfl⟩, rfl, rfl, rfl, rfl⟩ := q2
  have hD9 : ∀ j, j < 16 → dst dr gz j ≤ 99 := fun j hj => (dst_is dr gz j hj).1
  refine v_is (lw_lwn dr sz gz) ?_
  by_cases hlt : lwn dr sz gz < 99
  · refine v_is (ifc_t hlt) ?_
    refine v_istore (lv2 := [(4, .int (nI (lwn dr sz gz))), (0, .ref (g.1 + 65)), (1, .int (nI p)), (2, .int dr), (3, .int rf)]) dX9_leadsRight_17 (by decide) rfl ?_
    refine v_aload_n dX9_leadsRight_19 rfl 1 rfl ?_
    refine v_get (v := .ref (g.1 + 69)) fa_X9_26 dX9_leadsRight_20 rfl (by decide) (ltn rfl) rfl ?_
    refine v_iload_n dX9_leadsRight_23 rfl 2 rfl ?_
    refine v_iaload (len := 6) (j := p) dX9_leadsRight_24 rfl (ltn rfl) rfl (by decide) rfl (by omega) ?_
    refine v_is (y := I 69 p) (by rfl) ?_
    refine v_is (y := nI sz) hes ?_
    refine v_istore (lv2 := [(5, .int (nI sz)), (4, .int (nI (lwn dr sz gz))), (0, .ref (g.1 + 65)), (1, .int (nI p)), (2, .int dr), (3, .int rf)]) dX9_leadsRight_25 (by decide) rfl ?_
    refine v_iconst (v := 0) dX9_leadsRight_27 (by decide) ?_
    refine v_istore (lv2 := [(6, .int 0), (5, .int (nI sz)), (4, .int (nI (lwn dr sz gz))), (0, .ref (g.1 + 65)), (1, .int (nI p)), (2, .int dr), (3, .int rf)]) dX9_leadsRight_28 (by decide) rfl ?_
    refine v_lv (lv2 := [(6, .int (nI 0)), (5, .int (nI (pth (dst dr gz) sz 0))), (4, .int (nI (lwn dr sz gz))), (0, .ref (g.1 + 65)), (1, .int (nI p)), (2, .int dr), (3, .int rf)]) (by rfl) ?_
    refine dloop (P := fun i => (∀ k, k < i → ¬ hb rf (pth (dst dr gz) sz (k + 1))) → V g F cX9_leadsRight RX9 7 4 30 [(6, .int (nI i)), (5, .int (nI (pth (dst dr gz) sz i))), (4, .int (nI (lwn dr sz gz))), (0, .ref (g.1 + 65)), (1, .int (nI p)), (2, .int dr), (3, .int rf)] [] (scr I (I 83) hq) L_ (RT na nt ni) (NT nl) (NB + m) 0 0) (lwn dr sz gz) ?_ ?_ 0 (Nat.zero_le _) (fun k h => absurd h (Nat.not_lt_zero k))
    · intro hinv
      refine v_iload dX9_leadsRight_30 0 rfl ?_
      refine v_iload dX9_leadsRight_32 2 rfl ?_
      refine v_icmp_geN (a := (lwn dr sz gz)) (b := (lwn dr sz gz)) (tgt := 63) dX9_leadsRight_34 (by decide) rfl rfl (by omega) (by omega) (fun h3 => ?_) (fun h => by exfalso; omega)
      refine v_iload dX9_leadsRight_63 2 rfl ?_
      refine v_if_ltN (a := (lwn dr sz gz)) (tgt := 72) dX9_leadsRight_65 (by decide) rfl (by omega) (fun h => by exfalso; omega) (fun h4 => ?_)
      refine v_iconst (v := 1) dX9_leadsRight_68 (by decide) ?_
      refine v_goto (tgt := 73) dX9_leadsRight_69 (by decide) ?_
      exact v_zret hr dX9_leadsRight_73 (by first | rfl | exact nbq) (⟨by rw [bq_t (show lead dr rf sz gz from ⟨hlt, hinv⟩)], ⟨_, _, rfl⟩, rfl, rfl, rfl, rfl⟩)
    · intro i hi ih
      intro hinv
      obtain ⟨hpl, hpn⟩ := pth_on hsz hlt i (by omega)
      obtain ⟨hps, hpm, hpd⟩ := hpn hi
      refine v_iload dX9_leadsRight_30 0 rfl ?_
      refine v_iload dX9_leadsRight_32 2 rfl ?_
      refine v_icmp_geN (a := i) (b := (lwn dr sz gz)) (tgt := 63) dX9_leadsRight_34 (by decide) rfl rfl (by omega) (by omega) (fun h => by exfalso; omega) (fun h5 => ?_)
      refine v_aload_n dX9_leadsRight_37 rfl 3 rfl ?_
      refine v_iload dX9_leadsRight_38 1 rfl ?_
      refine v_callVi (As := [.int (nI (pth (dst dr gz) sz i))]) (rest := []) lk_X9_337 (c_X9_stepFrom (I := (scr I (I 83) hq)) (pth (dst dr gz) sz i) hpl (dst dr gz) hrow hD9) dX9_leadsRight_40 rfl (ltn rfl) rfl rfl (Nat.le_of_ble_eq_true rfl) (by decide) ?_
      refine v_is hps ?_
      refine v_istore (lv2 := [(5, .int (nI (pth (dst dr gz) sz (i + 1)))), (6, .int (nI i)), (4, .int (nI (lwn dr sz gz))), (0, .ref (g.1 + 65)), (1, .int (nI p)), (2, .int dr), (3, .int rf)]) dX9_leadsRight_43 (by decide) rfl ?_
      refine v_aload_n dX9_leadsRight_45 rfl 3 rfl ?_
      refine v_iload_n dX9_leadsRight_46 rfl 6 rfl ?_
      refine v_iload dX9_leadsRight_47 0 rfl ?_
      refine v_callVi (As := [.int rf, .int (nI (pth (dst dr gz) sz (i + 1)))]) (rest := []) lk_X9_233 (c_hasN rf (pth (dst dr gz) sz (i + 1))) dX9_leadsRight_49 rfl (ltn rfl) rfl rfl (Nat.le_of_ble_eq_true rfl) (by decide) ?_
      refine v_ifb_eq (tgt := 57) dX9_leadsRight_52 (by decide) (fun h6 => ?_) (fun h6 => ?_)
      · -- not hb rf (pth (dst dr gz) sz (i + 1))
        refine v_inc (v := nI (i + 1)) (lv2 := [(6, .int (nI (i + 1))), (5, .int (nI (pth (dst dr gz) sz (i + 1)))), (4, .int (nI (lwn dr sz gz))), (0, .ref (g.1 + 65)), (1, .int (nI p)), (2, .int dr), (3, .int rf)]) dX9_leadsRight_57 1 rfl (nx_inc rfl) (by decide) rfl ?_
        refine v_goto (tgt := 30) dX9_leadsRight_60 (by decide) ?_
        exact ih (ks_step hinv h6)
      · -- hb rf (pth (dst dr gz) sz (i + 1))
        refine v_iconst (v := 0) dX9_leadsRight_55 (by decide) ?_
        exact v_zret hr dX9_leadsRight_56 (by first | rfl | exact nbq) (⟨by rw [bq_f (fun z : lead dr rf sz gz => z.2 i hi h6)], ⟨_, _, rfl⟩, rfl, rfl, rfl, rfl⟩)
  · refine v_is (ifc_f hlt) ?_
    refine v_istore (lv2 := [(4, .int (-5)), (0, .ref (g.1 + 65)), (1, .int (nI p)), (2, .int dr), (3, .int rf)]) dX9_leadsRight_17 (by decide) rfl ?_
    refine v_aload_n dX9_leadsRight_19 rfl 1 rfl ?_
    refine v_get (v := .ref (g.1 + 69)) fa_X9_26 dX9_leadsRight_20 rfl (by decide) (ltn rfl) rfl ?_
    refine v_iload_n dX9_leadsRight_23 rfl 2 rfl ?_
    refine v_iaload (len := 6) (j := p) dX9_leadsRight_24 rfl (ltn rfl) rfl (by decide) rfl (by omega) ?_
    refine v_is (y := I 69 p) (by rfl) ?_
    refine v_is (y := nI sz) hes ?_
    refine v_istore (lv2 := [(5, .int (nI sz)), (4, .int (-5)), (0, .ref (g.1 + 65)), (1, .int (nI p)), (2, .int dr), (3, .int rf)]) dX9_leadsRight_25 (by decide) rfl ?_
    refine v_iconst (v := 0) dX9_leadsRight_27 (by decide) ?_
    refine v_istore (lv2 := [(6, .int 0), (5, .int (nI sz)), (4, .int (-5)), (0, .ref (g.1 + 65)), (1, .int (nI p)), (2, .int dr), (3, .int rf)]) dX9_leadsRight_28 (by decide) rfl ?_
    refine v_iload dX9_leadsRight_30 0 rfl ?_
    refine v_iload dX9_leadsRight_32 2 rfl ?_
    refine v_icmp_ge (tgt := 63) dX9_leadsRight_34 (by decide) (fun _ => ?_) (fun h7 => by first | exact absurd h7 (by decide) | exact absurd (by decide) h7)
    refine v_iload dX9_leadsRight_63 2 rfl ?_
    refine v_if_lt (tgt := 72) dX9_leadsRight_65 (by decide) (fun _ => ?_) (fun h8 => by first | exact absurd h8 (by decide) | exact absurd (by decide) h8)
    refine v_iconst (v := 0) dX9_leadsRight_72 (by decide) ?_
    exact v_zret hr dX9_leadsRight_73 (by first | rfl | exact nbq) (⟨by rw [bq_f (fun z : lead dr rf sz gz => hlt z.1)], ⟨_, _, rfl⟩, rfl, rfl, rfl, rfl⟩)

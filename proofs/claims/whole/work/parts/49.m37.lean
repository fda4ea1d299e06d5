theorem tnD_cl {tx : Nat → Int32} {fd a : Nat} {dz : Int32} (h : digP (nxt tx fd a)) : tnD tx fd a dz = clN tx fd a := by unfold tnD clN; rw [ifc_t h]
def cjn (c : Nat) (I B : Ty) : Prop := (∀ x, x ≠ 76 → x ≠ 77 → x ≠ 78 → x ≠ 79 → B x = I x) ∧ ∀ j, j ≠ c → B 76 j = I 76 j ∧ B 77 j = I 77 j ∧ B 78 j = I 78 j ∧ B 79 j = I 79 j
theorem cjn_0 (c : Nat) (I : Ty) : cjn c I I := ⟨fun _ _ _ _ _ => rfl, fun _ _ => ⟨rfl, rfl, rfl, rfl⟩⟩
theorem cjn_w {c : Nat} {I B : Ty} (h : cjn c I B) (r : Nat) (hr : r = 76 ∨ r = 77 ∨ r = 78 ∨ r = 79) (v : Int32) : cjn c I (wr B r c v) := by
  refine ⟨fun x h1 h2 h3 h4 => (up_off _ _ (by rcases hr with e | e | e | e <;> subst e <;> assumption)).trans (h.1 x h1 h2 h3 h4), fun j hj => ?_⟩
  obtain ⟨q1, q2, q3, q4⟩ := h.2 j hj
  have key : ∀ y, wr B r c v y j = B y j := by
    intro y
    by_cases e : y = r
    · subst e; show va_up B y (va_up (B y) c v) y j = _; rw [up_at, up_off _ _ hj]
    · show va_up B r (va_up (B r) c v) y j = _; rw [up_off _ _ e]
  exact ⟨(key 76).trans q1, (key 77).trans q2, (key 78).trans q3, (key 79).trans q4⟩
/-- what one clause's reading leaves -/
def Pcl (I : Ty) (L0 : TL) (R0 : TR) (N0 : TN) (n0 cz sz : Nat) (sn : Nat → Int32) (z : CR) : Post := fun v I' L R N n => v = some (.int (bq (z.2.isSome = true))) ∧ (∃ (dg : Int32) (out : List Tk) (wt : Nat) (op : Int32) (ws' : Nat → Int32) (B : Ty), I' = pI B (nI z.1) dg (nI (sz + out.length)) (nI wt) op (putL sn sz (out.map mcd)) ws' ∧ cjn cz I B ∧ (∀ w k o, z.2 = some (w, k, o) → out = o ∧ B 76 cz = w ∧ B 77 cz = k ∧ (w = 2 ∨ (B 78 cz = nI sz ∧ B 79 cz = nI (sz + o.length))))) ∧ L = L0 ∧ R = R0 ∧ N = N0 ∧ n = n0
theorem tnA_no {tx : Nat → Int32} {fd a : Nat} (h : ¬ digP (nxt tx fd a)) : tnA tx fd a = a := by unfold tnA; rw [ifc_f h]
section
variable {I J B : Ty} {L : TL} {R : TR} {N : TN} {n cz sz wt : Nat} {sn ws : Nat → Int32} {z : PR} {W K dg op tv : Int32} {out : List Tk}
theorem clr_no (h : ¬ z.2.isSome = true) (hC : cjn cz I B) : Pcl I L R N n cz sz sn (z.1, z.2.map (fun o => (W, K, o))) (some (.int 0)) (pI B (nI z.1) dg (nI (sz + out.length)) (nI wt) op (putL sn sz (out.map mcd)) ws) L R N n := by
  obtain ⟨z1, z2⟩ := z
  cases z2 with
  | none => exact ⟨congrArg (fun z => some (Value.int z)) (bq_f (by intro q; cases q)).symm, ⟨dg, out, wt, op, ws, B, rfl, hC, fun _ _ _ q => by cases q⟩, rfl, rfl, rfl, rfl⟩
  | some o => exact absurd rfl h
theorem clr_yes (h : z.2.isSome = true) (hyes : ∀ o, z.2 = some o → out = o ∧ tv = nI (sz + o.length)) (hC : cjn cz I (wr (wr J 78 cz (nI sz)) 79 cz tv)) (hW : J 76 cz = W) (hK : J 77 cz = K) : Pcl I L R N n cz sz sn (z.1, z.2.map (fun o => (W, K, o))) (some (.int 1)) (pI (wr (wr J 78 cz (nI sz)) 79 cz tv) (nI z.1) dg (nI (sz + out.length)) (nI wt) op (putL sn sz (out.map mcd)) ws) L R N n := by
  obtain ⟨z1, z2⟩ := z
  cases z2 with
  | none => cases h
  | some o2 =>
    refine ⟨congrArg (fun z => some (Value.int z)) (bq_t rfl).symm, ⟨dg, out, wt, op, ws, _, rfl, hC, fun w k o q => ?_⟩, rfl, rfl, rfl, rfl⟩
    obtain ⟨e1, e2⟩ := hyes o2 rfl
    cases q
    exact ⟨e1, hW, hK, Or.inr ⟨up_at _ _ _, (up_at _ _ _).trans e2⟩⟩
end
set_option maxRecDepth 100000 in
set_option maxHeartbeats 2000000 in
theorem c_X9_takesClause {g : Gl} {I : Ty} {L : TL} {na nt ni m : Nat} {nl : Nat → Nat} (cz : Nat) (az : Nat) (dz : Int32) (sz wz : Nat) (oz : Int32) (sn ws : Nat → Int32) (fd : Nat) (hf : fd ≤ 100) (hfd : I 65 12 = nI fd) (tx : Nat → Int32) (htx : I 74 = tx) (hcz : cz < 60) (s0 : Nat) (hs0 : s0 ≤ 500) (hse : sz ≤ s0 + az) (hae : az ≤ fd) (lt : Nat → Int32) (hlt : I 82 = lt) : Ct g yX9_takesClause cX9_takesClause 2 (some .boolean) 6 0 0 [.ref (g.1 + 65), .int (nI cz)] (pI I (nI az) dz (nI sz) (nI wz) oz sn ws) L (RT na nt ni) (NT nl) (NB + m) (Pcl I L (RT na nt ni) (NT nl) (NB + m) cz sz sn (clR tx lt fd az)) := by
  refine ct_of (by decide +kernel) (Nat.le_of_ble_eq_true rfl) (fun F hnm hr => ?_)
  clear hnm
  show V g F cX9_takesClause RX9 2 6 0 [(0, .ref (g.1 + 65)), (1, .int (nI cz))] [] (pI I (nI az) dz (nI sz) (nI wz) oz sn ws) L (RT na nt ni) (NT nl) (NB + m) 0 0
  refine v_aload_n dX9_takesClause_0 rfl 0 rfl ?_
  refine v_iload_n dX9_takesClause_1 rfl 1 rfl ?_
  refine v_callVi (As := [.int (nI cz)]) (rest := []) lk_X9_283 (c_X9_takesHead (I := I) cz az dz sz wz oz sn ws fd hf hfd tx htx hcz (by omega) lt hlt) dX9_takesClause_2 rfl (ltn rfl) rfl rfl (Nat.le_of_ble_eq_true rfl) (by decide) ?_
  refine v_ifb_eq (tgt := 15) dX9_takesClause_5 (by decide) (fun h1 => ?_) (fun h1 => ?_)
  · -- not (hdL tx lt fd az = 4 + 1)
    refine v_iconst (v := 0) dX9_takesClause_15 (by decide) ?_
    exact v_zret hr dX9_takesClause_16 (by first | rfl | exact nbq) (by (unfold clR; rw [ifc_f (show ¬ (hdL tx lt fd az = 4 + 1 ∧ digP (nxt tx fd (az + hdL tx lt fd az))) from fun q => h1 q.1)]; exact ⟨congrArg (fun z => some (Value.int z)) (bq_f (by intro q; cases q)).symm, ⟨_, [], _, _, _, _, rfl, (cjn_w (cjn_0 cz I) 76 (Or.inl rfl) _), fun _ _ _ q => by cases q⟩, rfl, rfl, rfl, rfl⟩))
  · -- (hdL tx lt fd az = 4 + 1)
    refine v_aload_n dX9_takesClause_8 rfl 0 rfl ?_
    refine v_callVi (As := []) (rest := []) lk_X9_268 (c_X9_takesNumber (I := (wr I 76 cz (hdW tx fd az))) (az + hdL tx lt fd az) dz sz wz oz sn ws fd hf hfd tx htx (by omega)) dX9_takesClause_9 rfl (ltn rfl) rfl rfl (Nat.le_of_ble_eq_true rfl) (by decide) ?_
    refine v_ifb_ne (tgt := 17) dX9_takesClause_12 (by decide) (fun h2 => ?_) (fun h2 => ?_)
    · -- (digP (nxt tx fd (az + hdL tx lt fd az)))
      have hc : (hdL tx lt fd az = 4 + 1 ∧ digP (nxt tx fd (az + hdL tx lt fd az))) := ⟨h1, h2⟩
      have hta := tnA_le h2
      refine v_aload_n dX9_takesClause_17 rfl 0 rfl ?_
      refine v_get (v := .ref (g.1 + 77)) fa_X9_65 dX9_takesClause_18 rfl (by decide) (ltn rfl) rfl ?_
      refine v_iload_n dX9_takesClause_21 rfl 1 rfl ?_
      refine v_aload_n dX9_takesClause_22 rfl 0 rfl ?_
      refine v_get (v := .int ((pI (wr I 76 cz (hdW tx fd az)) (nI (tnA tx fd (az + hdL tx lt fd az))) (tnD tx fd (az + hdL tx lt fd az) dz) (nI sz) (nI wz) oz sn ws) 65 14)) fa_X9_53 dX9_takesClause_23 rfl (by decide) (ltn rfl) rfl ?_
      refine v_is (y := (tnD tx fd (az + hdL tx lt fd az) dz)) (by rfl) ?_
      refine v_iastore (len := 60) (j := cz) dX9_takesClause_26 rfl (ltn rfl) rfl (by decide) rfl (by omega) ?_
      refine v_I (I2 := (pI (wr (wr I 76 cz (hdW tx fd az)) 77 cz (clN tx fd (az + hdL tx lt fd az))) (nI (tnA tx fd (az + hdL tx lt fd az))) (tnD tx fd (az + hdL tx lt fd az) dz) (nI sz) (nI wz) oz sn ws)) (by show (wr (pI (wr I 76 cz (hdW tx fd az)) (nI (tnA tx fd (az + hdL tx lt fd az))) (tnD tx fd (az + hdL tx lt fd az) dz) (nI sz) (nI wz) oz sn ws) 77 cz (tnD tx fd (az + hdL tx lt fd az) dz)) = _; rw [tnD_cl h2]; exact pI_out _ _ _ _ _ _ _ _ _ _ (by decide) (by decide) (by decide)) ?_
      refine v_aload_n dX9_takesClause_27 rfl 0 rfl ?_
      refine v_get (v := .ref (g.1 + 76)) fa_X9_62 dX9_takesClause_28 rfl (by decide) (ltn rfl) rfl ?_
      refine v_iload_n dX9_takesClause_31 rfl 1 rfl ?_
      refine v_iaload (len := 60) (j := cz) dX9_takesClause_32 rfl (ltn rfl) rfl (by decide) rfl (by omega) ?_
      refine v_is (y := (hdW tx fd az)) (by exact up_at _ _ _) ?_
      refine v_iconst (v := 2) dX9_takesClause_33 (by decide) ?_
      refine v_icmp_eq (tgt := 54) dX9_takesClause_34 (by decide) (fun h4 => ?_) (fun h4 => ?_)
      · refine v_iconst (v := 1) dX9_takesClause_54 (by decide) ?_
        refine v_goto (tgt := 59) dX9_takesClause_55 (by decide) ?_
        exact v_zret hr dX9_takesClause_59 (by first | rfl | exact nbq) (by (unfold clR; rw [ifc_t hc, ifc_t h4]; exact ⟨congrArg (fun z => some (Value.int z)) (bq_t rfl).symm, ⟨_, [], _, _, _, _, rfl, (cjn_w (cjn_w (cjn_0 cz I) 76 (Or.inl rfl) _) 77 (Or.inr (Or.inl rfl)) _), fun _ _ _ q => by cases q; exact ⟨rfl, (up_at _ _ _).trans h4, up_at _ _ _, Or.inl rfl⟩⟩, rfl, rfl, rfl, rfl⟩))
      · refine v_aload_n dX9_takesClause_37 rfl 0 rfl ?_
        refine v_bipush (v := 32) dX9_takesClause_38 (by decide) ?_
        refine v_callVi (As := [.int 32]) (rest := []) lk_X9_253 (c_X9_takes (I := (wr (wr I 76 cz (hdW tx fd az)) 77 cz (clN tx fd (az + hdL tx lt fd az)))) 32 (tnA tx fd (az + hdL tx lt fd az)) (tnD tx fd (az + hdL tx lt fd az) dz) sz wz oz sn ws fd hf hfd tx htx (by omega)) dX9_takesClause_40 rfl (ltn rfl) rfl rfl (Nat.le_of_ble_eq_true rfl) (by decide) ?_
        refine v_ifb_eq (tgt := 58) dX9_takesClause_43 (by decide) (fun h5 => ?_) (fun h5 => ?_)
        · -- not (nxt tx fd (tnA tx fd (az + hdL tx lt fd az)) = 32)
          refine v_I (I2 := (pI (wr (wr I 76 cz (hdW tx fd az)) 77 cz (clN tx fd (az + hdL tx lt fd az))) (nI (tnA tx fd (az + hdL tx lt fd az))) (tnD tx fd (az + hdL tx lt fd az) dz) (nI sz) (nI wz) oz sn ws)) (by rw [ifc_f h5]) ?_
          refine v_iconst (v := 0) dX9_takesClause_58 (by decide) ?_
          exact v_zret hr dX9_takesClause_59 (by first | rfl | exact nbq) (by (unfold clR; rw [ifc_t hc, ifc_f h4, ifc_f h5]; exact ⟨congrArg (fun z => some (Value.int z)) (bq_f (by intro q; cases q)).symm, ⟨_, [], _, _, _, _, rfl, (cjn_w (cjn_w (cjn_0 cz I) 76 (Or.inl rfl) _) 77 (Or.inr (Or.inl rfl)) _), fun _ _ _ q => by cases q⟩, rfl, rfl, rfl, rfl⟩))
        · -- (nxt tx fd (tnA tx fd (az + hdL tx lt fd az)) = 32)
          refine v_I (I2 := (pI (wr (wr I 76 cz (hdW tx fd az)) 77 cz (clN tx fd (az + hdL tx lt fd az))) (nI ((tnA tx fd (az + hdL tx lt fd az)) + 1)) (tnD tx fd (az + hdL tx lt fd az) dz) (nI sz) (nI wz) oz sn ws)) (by rw [ifc_t h5]) ?_
          have hlt := nxt_eq h5 (by decide)
          refine v_aload_n dX9_takesClause_46 rfl 0 rfl ?_
          refine v_iload_n dX9_takesClause_47 rfl 1 rfl ?_
          obtain ⟨out, dg, wt, op, ws2, tv, kk, hrun, hyes⟩ := eit_all hf (a := (tnA tx fd (az + hdL tx lt fd az)) + 1) (by omega) (tnD tx fd (az + hdL tx lt fd az) dz) sz sn ws ((wr (wr I 76 cz (hdW tx fd az)) 77 cz (clN tx fd (az + hdL tx lt fd az))) 79 cz)
          refine v_callVi (As := [.int (nI cz)]) (rest := []) lk_X9_286 (c_X9_takesE (I := (wr (wr I 76 cz (hdW tx fd az)) 77 cz (clN tx fd (az + hdL tx lt fd az)))) cz ((tnA tx fd (az + hdL tx lt fd az)) + 1) (tnD tx fd (az + hdL tx lt fd az) dz) sz wz oz sn ws fd hf hfd tx htx hcz ((eitR tx fd ((tnA tx fd (az + hdL tx lt fd az)) + 1)).2.isSome, (eitR tx fd ((tnA tx fd (az + hdL tx lt fd az)) + 1)).1, dg, sz + out.length, wt, op, putL sn sz (out.map mcd), ws2, tv) kk s0 hs0 (by omega) (by omega) hrun) dX9_takesClause_48 rfl (ltn rfl) rfl rfl (Nat.le_of_ble_eq_true rfl) (by decide) ?_
          refine v_ifb_eq (tgt := 58) dX9_takesClause_51 (by decide) (fun h6 => ?_) (fun h6 => ?_)
          · -- not ((eitR tx fd ((tnA tx fd (az + hdL tx lt fd az)) + 1)).2.isSome = true)
            refine v_iconst (v := 0) dX9_takesClause_58 (by decide) ?_
            exact v_zret hr dX9_takesClause_59 (by first | rfl | exact nbq) (by (unfold clR; rw [ifc_t hc, ifc_f h4, ifc_t h5]; exact clr_no h6 (cjn_w (cjn_w (cjn_w (cjn_w (cjn_0 cz I) 76 (Or.inl rfl) _) 77 (Or.inr (Or.inl rfl)) _) 78 (Or.inr (Or.inr (Or.inl rfl))) _) 79 (Or.inr (Or.inr (Or.inr rfl))) _)))
          · -- ((eitR tx fd ((tnA tx fd (az + hdL tx lt fd az)) + 1)).2.isSome = true)
            refine v_iconst (v := 1) dX9_takesClause_54 (by decide) ?_
            refine v_goto (tgt := 59) dX9_takesClause_55 (by decide) ?_
            exact v_zret hr dX9_takesClause_59 (by first | rfl | exact nbq) (by (unfold clR; rw [ifc_t hc, ifc_f h4, ifc_t h5]; exact clr_yes h6 hyes (cjn_w (cjn_w (cjn_w (cjn_w (cjn_0 cz I) 76 (Or.inl rfl) _) 77 (Or.inr (Or.inl rfl)) _) 78 (Or.inr (Or.inr (Or.inl rfl))) _) 79 (Or.inr (Or.inr (Or.inr rfl))) _) (up_at _ _ _) (up_at _ _ _)))
    · -- not (digP (nxt tx fd (az + hdL tx lt fd az)))
      refine v_iconst (v := 0) dX9_takesClause_15 (by decide) ?_
      exact v_zret hr dX9_takesClause_16 (by first | rfl | exact nbq) (by (unfold clR; rw [ifc_f (show ¬ (hdL tx lt fd az = 4 + 1 ∧ digP (nxt tx fd (az + hdL tx lt fd az))) from fun q => h2 q.2), tnA_no h2]; exact ⟨congrArg (fun z => some (Value.int z)) (bq_f (by intro q; cases q)).symm, ⟨_, [], _, _, _, _, rfl, (cjn_w (cjn_0 cz I) 76 (Or.inl rfl) _), fun _ _ _ q => by cases q⟩, rfl, rfl, rfl, rfl⟩))

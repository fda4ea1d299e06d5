noncomputable def stps : ClL → List Int32
  | [] => []
  | c :: l => stL c ++ stps l
theorem stps_snoc : ∀ (l : ClL) (c : Int32 × Int32 × List Tk), stps (l ++ [c]) = stps l ++ stL c
  | [], c => List.append_nil _
  | x :: l, c => by
    show stL x ++ stps (l ++ [c]) = stL x ++ stps l ++ stL c
    rw [stps_snoc l c, List.append_assoc]
noncomputable def fdC : Int32 → ClL → Int32
  | f, [] => f
  | f, c :: l => fdC (ifc (c.1 = 2) c.2.1 f) l
theorem fdC_snoc : ∀ (l : ClL) (f : Int32) (c : Int32 × Int32 × List Tk), fdC f (l ++ [c]) = ifc (c.1 = 2) c.2.1 (fdC f l)
  | [], _, _ => rfl
  | x :: l, f, c => fdC_snoc l _ c
theorem clR_ok2 {tx lt : Nat → Int32} {fd a : Nat} {c : Int32 × Int32 × List Tk} (h : (clR tx lt fd a).2 = some c) : a + 1 ≤ (clR tx lt fd a).1 ∧ (clR tx lt fd a).1 ≤ fd ∧ (stL c).length + a ≤ (clR tx lt fd a).1 := by
  obtain ⟨w, k, o⟩ := c
  have h0 := clR_ok (a' := (clR tx lt fd a).1) (Prod.ext rfl h)
  refine ⟨h0.1, h0.2.1, ?_⟩
  by_cases hc : hdL tx lt fd a = 4 + 1 ∧ digP (nxt tx fd (a + hdL tx lt fd a))
  · by_cases hw : hdW tx fd a = 2
    · rw [clR_fd hc hw] at h ⊢
      cases h
      have e : stL (2, clN tx fd (a + hdL tx lt fd a), []) = [] := ifc_t rfl
      rw [e]
      have := (tnA_le hc.2).1
      show 0 + a ≤ tnA tx fd (a + hdL tx lt fd a)
      omega
    · by_cases h32 : nxt tx fd (tnA tx fd (a + hdL tx lt fd a)) = 32
      · rw [clR_sp hc hw h32] at h ⊢
        cases e : (eitR tx fd (tnA tx fd (a + hdL tx lt fd a) + 1)).2 with
        | none => rw [e] at h; cases h
        | some o2 =>
          rw [e] at h
          cases h
          have h1 : o.length + (tnA tx fd (a + hdL tx lt fd a) + 1) ≤ (eitR tx fd (tnA tx fd (a + hdL tx lt fd a) + 1)).1 := eit_len (Prod.ext rfl e)
          have h2 := (tnA_le hc.2).1
          have e2 : stL (hdW tx fd a, clN tx fd (a + hdL tx lt fd a), o) = o.map ccd ++ [adc (hdW tx fd a) (clN tx fd (a + hdL tx lt fd a))] := ifc_f hw
          rw [e2, List.length_append, List.length_map]
          show o.length + 1 + a ≤ (eitR tx fd (tnA tx fd (a + hdL tx lt fd a) + 1)).1
          omega
      · rw [clR_ns hc hw h32] at h; cases h
  · rw [clR_hd hc] at h; cases h
/-- what a text's parsing leaves -/
def Ptq (I : Ty) (L0 : TL) (R0 : TR) (N0 : TN) (n0 : Nat) (z : Nat × Option ClL) : Post := fun v I' L R N n => v = some (.int (bq (z.2.isSome = true))) ∧ (∃ (s2 : Nat) (n2 f2 : Int32) (t2 : Nat → Int32), I' = rI I (nI z.1) (nI s2) n2 f2 t2 ∧ ∀ l, z.2 = some l → s2 = (stps l).length ∧ t2 = putL (I 17) 0 (stps l) ∧ f2 = fdC 0 l ∧ s2 ≤ 100) ∧ L = L0 ∧ R = R0 ∧ N = N0 ∧ n = n0
section
variable {I : Ty} {L : TL} {R : TR} {N : TN} {n a s2 : Nat} {n2 f2 : Int32} {st t2 : Nat → Int32}
theorem ptq_none : Ptq I L R N n (a, none) (some (.int 0)) (rI I (nI a) (nI s2) n2 f2 t2) L R N n := ⟨congrArg (fun z => some (Value.int z)) (bq_f (by intro q; cases q)).symm, ⟨s2, n2, f2, t2, rfl, fun o q => by cases q⟩, rfl, rfl, rfl, rfl⟩
theorem ptq_some {l : ClL} (h : (stps l).length ≤ 100) : Ptq I L R N n (a, some l) (some (.int 1)) (rI I (nI a) (nI (stps l).length) n2 (fdC 0 l) (putL (I 17) 0 (stps l))) L R N n := ⟨congrArg (fun z => some (Value.int z)) (bq_t rfl).symm, ⟨_, n2, _, _, rfl, fun o2 q => by cases q; exact ⟨rfl, rfl, rfl, h⟩⟩, rfl, rfl, rfl, rfl⟩
theorem v_callPt {g : Gl} {F : Fx} {cc : ByteArray} {own : String} {nL d pc : Nat} {lv : List (Nat × Value)} {sk : List Value} {J : Ty} {kr sr index na mL dc k ci : Nat} {y : MethodName} {bytes : ByteArray} {ret : Option FieldType} {As rest : List Value} {z : Nat × Option ClL} (hl : LkV own index y bytes mL ret na ci) (hM : Ct g y bytes mL ret dc 0 0 (.ref (g.1 + k) :: As) J L R N n (Ptq I L R N n z)) (hd : decode cc pc = .ok (.invokevirtual index, 3)) (hk : kd k = ci) (hn : k < n)
    (hna : As.length = na) (hst : sk = As.reverse ++ .ref (g.1 + k) :: rest) (hrest : rest.length ≤ 4) (hdc : dc + 1 ≤ d)
    (kk : ∀ (s2 : Nat) (n2 f2 : Int32) (t2 : Nat → Int32), (∀ l, z.2 = some l → s2 = (stps l).length ∧ t2 = putL (I 17) 0 (stps l) ∧ f2 = fdC 0 l ∧ s2 ≤ 100) → V g F cc own nL d (pc + 3) lv (.int (bq (z.2.isSome = true)) :: rest) (rI I (nI z.1) (nI s2) n2 f2 t2) L R N n kr sr) : V g F cc own nL d pc lv sk J L R N n kr sr :=
  v_callV hl hM hd hk hn hna hst hrest hdc (Nat.zero_le _) (Nat.zero_le _) (fun v' I' L' R' N' n' h => by obtain ⟨rfl, ⟨s2, n2, f2, t2, rfl, h1⟩, rfl, rfl, rfl, rfl⟩ := h; exact kk s2 n2 f2 t2 h1)
end
set_option maxRecDepth 100000 in
set_option maxHeartbeats 2000000 in
theorem c_X4_parseText {g : Gl} {I : Ty} {L : TL} {na nt ni m : Nat} {nl : Nat → Nat}  (fd : Nat) (hf : fd ≤ 100) (hfd : I 15 0 = nI fd) (tx : Nat → Int32) (htx : I 16 = tx) (lt : Nat → Int32) (hlt : LtOK lt) : Ct g yX4_parseText cX4_parseText 2 (some .boolean) 17 0 0 [.ref (g.1 + 15)] I L (RT na nt ni) (NT nl) (NB + m) (Ptq I L (RT na nt ni) (NT nl) (NB + m) (txR tx lt fd 10 0 [])) := by
  refine ct_of (by decide +kernel) (Nat.le_of_ble_eq_true rfl) (fun F hnm hr => ?_)
  clear hnm
  show V g F cX4_parseText RX4 2 17 0 [(0, .ref (g.1 + 15))] [] I L (RT na nt ni) (NT nl) (NB + m) 0 0
  obtain ⟨az, haz⟩ := nI_sur (I 15 1)
  obtain ⟨sz, hsz⟩ := nI_sur (I 15 4)
  have key : ∀ kz, ∀ (cz ag : Nat) (ng : Int32) (acc : ClL), cz + kz = 10 → (stps acc).length ≤ ag → ag ≤ fd → txR tx lt fd (kz + 1) ag acc = (txR tx lt fd 10 0 []) → V g F cX4_parseText RX4 2 17 17 [(1, .int (nI cz)), (0, .ref (g.1 + 15))] [] (rI I (nI ag) (nI (stps acc).length) ng (fdC 0 acc) (putL (I 17) 0 (stps acc))) L (RT na nt ni) (NT nl) (NB + m) 0 0 := by
    intro kz
    induction kz with
    | zero =>
      intro cz ag ng acc hck hsl hag hZ
      refine v_iload_n dX4_parseText_17 rfl 0 rfl ?_
      refine v_bipush (v := 10) dX4_parseText_18 (by decide) ?_
      refine v_icmp_gtN (a := cz) (b := 10) (tgt := 68) dX4_parseText_20 (by decide) rfl rfl (by omega) (by omega) (fun h => by exfalso; omega) (fun h1 => ?_)
      refine v_aload_n dX4_parseText_23 rfl 1 rfl ?_
      refine v_callPc (As := []) (rest := []) lk_X4_29 (c_X4_parseClause ag ((stps acc).length) ng (fdC 0 acc) (putL (I 17) 0 (stps acc)) fd hf hfd tx htx lt hlt (by omega) (by omega)) dX4_parseText_24 rfl (ltn rfl) rfl rfl (Nat.le_of_ble_eq_true rfl) (by decide) (fun s2 ng3 fg4 tg5 ho6 => ?_)
      refine v_ifb_ne (tgt := 32) dX4_parseText_27 (by decide) (fun h7 => ?_) (fun h7 => ?_)
      · -- ((clR tx lt fd ag).2.isSome = true)
        obtain ⟨cx, hc⟩ := Option.isSome_iff_exists.mp h7
        obtain ⟨rfl, rfl, rfl⟩ := ho6 cx hc
        have hok := clR_ok2 hc
        have hln : (stps acc).length + (stL cx).length = (stps (acc ++ [cx])).length := by rw [stps_snoc, List.length_append]
        have hpt := putL_app (stps acc) (stL cx) (I 17) 0
        rw [Nat.zero_add] at hpt
        refine v_I (I2 := (rI I (nI (clR tx lt fd ag).1) (nI (stps (acc ++ [cx])).length) ng3 (fdC 0 (acc ++ [cx])) (putL (I 17) 0 (stps (acc ++ [cx]))))) (by rw [hln, fdC_snoc, stps_snoc, ← hpt]) ?_
        refine v_aload_n dX4_parseText_32 rfl 1 rfl ?_
        refine v_get (v := .int ((rI I (nI (clR tx lt fd ag).1) (nI (stps (acc ++ [cx])).length) ng3 (fdC 0 (acc ++ [cx])) (putL (I 17) 0 (stps (acc ++ [cx])))) 15 1)) fa_X4_20 dX4_parseText_33 rfl (by decide) (ltn rfl) rfl ?_
        refine v_is (y := nI (clR tx lt fd ag).1) (by rfl) ?_
        refine v_aload_n dX4_parseText_36 rfl 1 rfl ?_
        refine v_get (v := .int ((rI I (nI (clR tx lt fd ag).1) (nI (stps (acc ++ [cx])).length) ng3 (fdC 0 (acc ++ [cx])) (putL (I 17) 0 (stps (acc ++ [cx])))) 15 0)) fa_X4_16 dX4_parseText_37 rfl (by decide) (ltn rfl) rfl ?_
        refine v_is (y := nI fd) (by exact hfd) ?_
        refine v_icmp_neN (a := (clR tx lt fd ag).1) (b := fd) (tgt := 45) dX4_parseText_40 (by decide) rfl rfl (by omega) (by omega) (fun h9 => ?_) (fun h9 => ?_)
        · refine v_iload_n dX4_parseText_45 rfl 0 rfl ?_
          refine v_bipush (v := 10) dX4_parseText_46 (by decide) ?_
          refine v_icmp_eqN (a := cz) (b := 10) (tgt := 60) dX4_parseText_48 (by decide) rfl rfl (by omega) (by omega) (fun _ => ?_) (fun hq => by exfalso; omega)
          refine v_iconst (v := 0) dX4_parseText_60 (by decide) ?_
          exact v_zret hr dX4_parseText_61 (by first | rfl | exact nbq) (by (rw [← hZ, txR_bad hc h9 (Or.inl rfl)]; exact ptq_none))
        · refine v_iconst (v := 1) dX4_parseText_43 (by decide) ?_
          exact v_zret hr dX4_parseText_44 (by first | rfl | exact nbq) (by (rw [← hZ, txR_end hc h9]; exact ptq_some (by omega)))
      · -- not ((clR tx lt fd ag).2.isSome = true)
        refine v_iconst (v := 0) dX4_parseText_30 (by decide) ?_
        exact v_zret hr dX4_parseText_31 (by first | rfl | exact nbq) (by (rw [← hZ, txR_no h7]; exact ptq_none))
    | succ kz ih =>
      intro cz ag ng acc hck hsl hag hZ
      refine v_iload_n dX4_parseText_17 rfl 0 rfl ?_
      refine v_bipush (v := 10) dX4_parseText_18 (by decide) ?_
      refine v_icmp_gtN (a := cz) (b := 10) (tgt := 68) dX4_parseText_20 (by decide) rfl rfl (by omega) (by omega) (fun h => by exfalso; omega) (fun h11 => ?_)
      refine v_aload_n dX4_parseText_23 rfl 1 rfl ?_
      refine v_callPc (As := []) (rest := []) lk_X4_29 (c_X4_parseClause ag ((stps acc).length) ng (fdC 0 acc) (putL (I 17) 0 (stps acc)) fd hf hfd tx htx lt hlt (by omega) (by omega)) dX4_parseText_24 rfl (ltn rfl) rfl rfl (Nat.le_of_ble_eq_true rfl) (by decide) (fun s12 ng13 fg14 tg15 ho16 => ?_)
      refine v_ifb_ne (tgt := 32) dX4_parseText_27 (by decide) (fun h17 => ?_) (fun h17 => ?_)
      · -- ((clR tx lt fd ag).2.isSome = true)
        obtain ⟨cx, hc⟩ := Option.isSome_iff_exists.mp h17
        obtain ⟨rfl, rfl, rfl⟩ := ho16 cx hc
        have hok := clR_ok2 hc
        have hln : (stps acc).length + (stL cx).length = (stps (acc ++ [cx])).length := by rw [stps_snoc, List.length_append]
        have hpt := putL_app (stps acc) (stL cx) (I 17) 0
        rw [Nat.zero_add] at hpt
        refine v_I (I2 := (rI I (nI (clR tx lt fd ag).1) (nI (stps (acc ++ [cx])).length) ng13 (fdC 0 (acc ++ [cx])) (putL (I 17) 0 (stps (acc ++ [cx]))))) (by rw [hln, fdC_snoc, stps_snoc, ← hpt]) ?_
        refine v_aload_n dX4_parseText_32 rfl 1 rfl ?_
        refine v_get (v := .int ((rI I (nI (clR tx lt fd ag).1) (nI (stps (acc ++ [cx])).length) ng13 (fdC 0 (acc ++ [cx])) (putL (I 17) 0 (stps (acc ++ [cx])))) 15 1)) fa_X4_20 dX4_parseText_33 rfl (by decide) (ltn rfl) rfl ?_
        refine v_is (y := nI (clR tx lt fd ag).1) (by rfl) ?_
        refine v_aload_n dX4_parseText_36 rfl 1 rfl ?_
        refine v_get (v := .int ((rI I (nI (clR tx lt fd ag).1) (nI (stps (acc ++ [cx])).length) ng13 (fdC 0 (acc ++ [cx])) (putL (I 17) 0 (stps (acc ++ [cx])))) 15 0)) fa_X4_16 dX4_parseText_37 rfl (by decide) (ltn rfl) rfl ?_
        refine v_is (y := nI fd) (by exact hfd) ?_
        refine v_icmp_neN (a := (clR tx lt fd ag).1) (b := fd) (tgt := 45) dX4_parseText_40 (by decide) rfl rfl (by omega) (by omega) (fun h19 => ?_) (fun h19 => ?_)
        · refine v_iload_n dX4_parseText_45 rfl 0 rfl ?_
          refine v_bipush (v := 10) dX4_parseText_46 (by decide) ?_
          refine v_icmp_eqN (a := cz) (b := 10) (tgt := 60) dX4_parseText_48 (by decide) rfl rfl (by omega) (by omega) (fun hq => by exfalso; omega) (fun _ => ?_)
          refine v_aload_n dX4_parseText_51 rfl 1 rfl ?_
          refine v_bipush (v := 59) dX4_parseText_52 (by decide) ?_
          refine v_callVi (As := [.int 59]) (rest := []) lk_X4_33 (c_X4_takeSign 59 ((clR tx lt fd ag).1) ((stps (acc ++ [cx])).length) ng13 (fdC 0 (acc ++ [cx])) (putL (I 17) 0 (stps (acc ++ [cx]))) fd hf hfd tx htx (by omega)) dX4_parseText_54 rfl (ltn rfl) rfl rfl (Nat.le_of_ble_eq_true rfl) (by decide) ?_
          refine v_ifb_ne (tgt := 62) dX4_parseText_57 (by decide) (fun h21 => ?_) (fun h21 => ?_)
          · -- (nxt tx fd ((clR tx lt fd ag).1) = 59)
            have hlq := nxt_eq h21 (by decide)
            refine v_I (I2 := (rI I (nI ((clR tx lt fd ag).1 + 1)) (nI (stps (acc ++ [cx])).length) ng13 (fdC 0 (acc ++ [cx])) (putL (I 17) 0 (stps (acc ++ [cx]))))) (by rw [ifc_t h21]) ?_
            refine v_inc (v := nI (cz + 1)) (lv2 := [(1, .int (nI (cz + 1))), (0, .ref (g.1 + 15))]) dX4_parseText_62 0 rfl (nx_inc rfl) (by decide) rfl ?_
            refine v_goto (tgt := 17) dX4_parseText_65 (by decide) ?_
            exact ih (cz + 1) _ _ (acc ++ [cx]) (by omega) (by omega) (by omega) (by rw [← hZ, txR_go hc h19 (by intro q; rcases q with q | q; (exact absurd q (by omega)); exact q h21)])
          · -- not (nxt tx fd ((clR tx lt fd ag).1) = 59)
            refine v_I (I2 := (rI I (nI (clR tx lt fd ag).1) (nI (stps (acc ++ [cx])).length) ng13 (fdC 0 (acc ++ [cx])) (putL (I 17) 0 (stps (acc ++ [cx]))))) (by rw [ifc_f h21]) ?_
            refine v_iconst (v := 0) dX4_parseText_60 (by decide) ?_
            exact v_zret hr dX4_parseText_61 (by first | rfl | exact nbq) (by (rw [← hZ, txR_bad hc h19 (Or.inr h21)]; exact ptq_none))
        · refine v_iconst (v := 1) dX4_parseText_43 (by decide) ?_
          exact v_zret hr dX4_parseText_44 (by first | rfl | exact nbq) (by (rw [← hZ, txR_end hc h19]; exact ptq_some (by omega)))
      · -- not ((clR tx lt fd ag).2.isSome = true)
        refine v_iconst (v := 0) dX4_parseText_30 (by decide) ?_
        exact v_zret hr dX4_parseText_31 (by first | rfl | exact nbq) (by (rw [← hZ, txR_no h17]; exact ptq_none))
  refine v_I (I2 := (rI I (nI az) (nI sz) (I 15 5) (I 15 6) (I 17))) (by rw [← haz, ← hsz]; exact rI_self I) ?_
  refine v_aload_n dX4_parseText_0 rfl 0 rfl ?_
  refine v_iconst (v := 0) dX4_parseText_1 (by decide) ?_
  refine v_puti pa_X4_20 dX4_parseText_2 rfl (by decide) (ltn rfl) (by show 1 < 7; decide) rfl ?_
  refine v_aload_n dX4_parseText_5 rfl 0 rfl ?_
  refine v_iconst (v := 0) dX4_parseText_6 (by decide) ?_
  refine v_puti pa_X4_23 dX4_parseText_7 rfl (by decide) (ltn rfl) (by show 4 < 7; decide) rfl ?_
  refine v_aload_n dX4_parseText_10 rfl 0 rfl ?_
  refine v_iconst (v := 0) dX4_parseText_11 (by decide) ?_
  refine v_puti pa_X4_26 dX4_parseText_12 rfl (by decide) (ltn rfl) (by show 6 < 7; decide) rfl ?_
  refine v_iconst (v := 1) dX4_parseText_15 (by decide) ?_
  refine v_istore_n (lv2 := [(1, .int 1), (0, .ref (g.1 + 15))]) dX4_parseText_16 rfl (by decide) rfl ?_
  refine v_I (I2 := (rI I (nI 0) (nI 0) (I 15 5) 0 (I 17))) (by simp only [rI_a, rI_sc, rI_nu, rI_fa, rI_st]; rfl) ?_
  refine v_lv (lv2 := [(1, .int (nI 1)), (0, .ref (g.1 + 15))]) (by rfl) ?_
  exact key 9 1 0 _ [] rfl (Nat.zero_le _) (Nat.zero_le _) rfl

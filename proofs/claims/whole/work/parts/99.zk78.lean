/-! THE CLAIM OUT OF ONE WALK OF THE LAW'S BODY. Your part is whole_start (and what it stands on); all else here is the same for every law, but numbers. -/
def R_law : String := "RefusalMapsLaw"
def lw_P (b : Addr) (xs : List Int32) (args : Array Value) (s : State) : Prop := args = #[.ref b] ∧ s.IntsAt b xs ∧ xs.length ≤ 3072 ∧ (Jvm.Cond.and given_1 narrow_1).before args s = true
def lw_Q (_ : Array Value) (s : State) (o : Outcome) (t : State) : Prop := o = .returned (some (.int 1)) ∧ Framed s o t [] 600000 7302250
def lw_Z (below : List Frame) (a : Array Value) (s : State) : State → Prop := fun t => ∃ o, t.status = .running ∧ Ended t below o ∧ lw_Q a s o t
/-- the law's own end, with 1 on the stack, nothing written that was there before, its room as the claim has it -/
theorem lw_ret {p : Program} {l : Launch} {e : Env} {s : State} {m : MethodId} {below : List Frame} {meth : Method} {c : Code} {b : Nat} (hx : p.tables.exec = Jvm.exec) (hb : c.code = code) (hr : meth.sig.returnType = ret) (hlocks : meth.locks = false) {pc : Nat} {H : Heap} {ls : Array Slot} (hdg : decode code pc = .ok (.ireturn, 1)) : W p l e room_1 s m #[Value.ref b] below meth c H [] 600000 7302250 (lw_Z below #[Value.ref b] s) (F0 m pc ls [.int 1]) := by
  intro T hT X
  obtain ⟨fs, hret, hrun, hended, hW, hframe⟩ := X.leave (v := some (.int 1)) (hlocks := hlocks) (fun h => by rw [hr] at h; cases h)
  have hmeth' : T.vm.method? m = some meth := X.method'
  refine ⟨T.setFrames fs, ?_, .returned (some (.int 1)), hrun, hended, rfl, ⟨_, rfl⟩, hW, hframe⟩
  jvm_step X.here [X.here.top, hx, hb, hdg, hmeth', hr, ret, narrow_b1]
  (try refine ⟨rfl, ?_⟩); (try refine ⟨rfl, ?_⟩)
  first | (intro acts; rw [hret _ acts rfl rfl rfl]) | rw [hret _ _ rfl rfl rfl]
  exact Steps.refl _
/-- what holds at the law's entry: the machine, the code, the tables' words (any of lw_tbl by 'hts w (by decide +kernel)'), the script of L ints xs at the cell b, what the Statement gives of the start (any of its parts by flat_of_before) -/
def lw_At (p : Program) (s : State) (m : MethodId) (meth : Method) (c : Code) (b L : Nat) (xs : Nat → Int32) : Prop :=
  p.tables.exec = Jvm.exec ∧ c.code = code ∧ meth.sig.returnType = ret ∧ c.maxLocals = 4 ∧ s.vm.findClass R_law = some m.cls ∧ (∀ w ∈ lw_tbl, w.before #[Value.ref b] s = true) ∧ va_X b L xs s s.heap ∧ b < s.heap.size ∧ meth.locks = false ∧ (Jvm.Cond.and given_1 narrow_1).before #[Value.ref b] s = true
-- ===== YOUR PART BEGINS =====
theorem nk_known {own : String} {index ci M : Nat} (h : Nk own index ci M) {s : State} {args : Array Value} (hts : ∀ w ∈ UW, w.before args s = true) : ∃ (cC : ClassId) (iS : Nat → Nat), ∀ q, vwCl[ci]? = some q → u_Kn s q.1 q.2.1 q.2.2 cC iS := by
  obtain ⟨C, T, ty0, hC, _, hinst, _, hin, _⟩ := h
  obtain ⟨cC, iS, hk⟩ := u_known (C := C) (T := T) (N := M) (n := M) hts hin (hts _ hinst)
  exact ⟨cC, iS, fun q hq => by
    have e : q = (C, T, M) := Option.some.inj (hq.symm.trans hC)
    subst e; exact hk⟩
theorem known_all {s : State} {args : Array Value} (hts : ∀ w ∈ UW, w.before args s = true) : ∀ k : Nat, ∃ z : ClassId × (Nat → Nat), ∀ q, vwCl[k]? = some q → u_Kn s q.1 q.2.1 q.2.2 z.1 z.2 := by
  have key : ∀ {own : String} {index ci M : Nat}, Nk own index ci M → ∃ z : ClassId × (Nat → Nat), ∀ q, vwCl[ci]? = some q → u_Kn s q.1 q.2.1 q.2.2 z.1 z.2 := fun h => by
    obtain ⟨cC, iS, hk⟩ := nk_known h hts
    exact ⟨(cC, iS), hk⟩
  intro k
  match k with
  | 0 => exact key nk_X8_28
  | 1 => exact key nk_X8_9
  | 2 => exact key nk_X8_46
  | 3 => exact key nk_X8_41
  | 4 => exact key nk_X8_21
  | 5 => exact key nk_X1_7
  | 6 => exact key nk_X8_35
  | 7 => exact key nk_L_7
  | 8 => exact key nk_L_10
  | k + 9 => exact ⟨(Classical.choice ⟨(nk_known nk_L_7 hts).choose⟩, fun _ => 0), fun q hq => by
      have h := (List.getElem?_eq_some_iff.mp hq).1
      exact absurd h (by show ¬ k + 9 < 9; omega)⟩
theorem arr_prim {s : State} {args : Array Value} {ty : FieldType} (hp : ∀ C, ty ≠ .object C) (h : (Cond.arrayClass ty).before args s = true) : ∃ cA : ClassId, ArrOfT s cA ty ∧ va_RA s cA ty := by
  obtain ⟨cA, kA, comp, hf, hk, hkd⟩ := Cond.arrayClass_spec h
  refine ⟨cA, fun N z => ⟨(fun k h => by cases h), kA, hk, comp, hkd⟩, ?_⟩
  cases ty with
  | object C => exact absurd rfl (hp C)
  | _ => exact hf
theorem arr_obj {s : State} {args : Array Value} {C : String} (h : (Cond.arrayOver (.object C)).before args s = true) : ∃ cA : ClassId, ArrOfT s cA (.object C) ∧ va_RA s cA (.object C) := by
  obtain ⟨comp, cA, kA, hf, _, hk, hkd, hn⟩ := Cond.arrayOver_spec h
  exact ⟨cA, fun N z => ⟨(fun k h => by cases h), kA, hk, comp, hkd⟩, kA, comp, hk, hkd, hf, hn⟩
def tmS (i : Nat) : Term := .string "RefusalMaps$Reader" ([52, 64, 66, 82, 88].getD i 0)
def FL : List Cond := flatC (Jvm.Cond.and given_1 narrow_1)
theorem fl_ex : ∀ i, i < 5 → Cond.exactly (tmS i) "java/lang/String" ∈ FL := by decide +kernel
theorem fl_co : ∀ i, i < 5 → Cond.eq (.field (tmS i) "java/lang/String" "coder" "B") (.int 0) ∈ FL := by decide +kernel
theorem fl_ar : ∀ i, i < 5 → Cond.arrayOf (.field (tmS i) "java/lang/String" "value" "[B") .byte ∈ FL := by decide +kernel
theorem fl_le : ∀ i, i < 5 → Cond.eq (.length (.field (tmS i) "java/lang/String" "value" "[B")) (.int (Int32.ofNat (strLen.getD i 0))) ∈ FL := by decide +kernel
theorem fl_el : ∀ i, i < 5 → ∀ j, j < strLen.getD i 0 → Cond.eq (.elem (.field (tmS i) "java/lang/String" "value" "[B") (.int (Int32.ofNat j))) (.int ((strByt.getD i []).getD j 0)) ∈ FL := by decide +kernel
theorem fl_ne : ∀ i, i < 5 → ∀ j, j < 5 → i ≠ j → Cond.not (Cond.eq (tmS i) (tmS j)) ∈ FL ∨ Cond.not (Cond.eq (tmS j) (tmS i)) ∈ FL := by decide +kernel
def tmA : Term := .static "RefusalMaps" "ABOVE" "[I"
def tmB : Term := .static "RefusalMaps$Acts" "BODIES" "[I"
theorem fl_aa : Cond.arrayOf tmA .int ∈ FL := by decide +kernel
theorem fl_al : Cond.eq (.length tmA) (.int (Int32.ofNat 7)) ∈ FL := by decide +kernel
theorem fl_ae : ∀ j, j < 7 → Cond.eq (.elem tmA (.int (Int32.ofNat j))) (.int (aboveT.getD j 0)) ∈ FL := by decide +kernel
theorem fl_ba : Cond.arrayOf tmB .int ∈ FL := by decide +kernel
theorem fl_bl : Cond.eq (.length tmB) (.int (Int32.ofNat 21)) ∈ FL := by decide +kernel
theorem fl_be : ∀ j, j < 21 → Cond.eq (.elem tmB (.int (Int32.ofNat j))) (.int (bodiesT.getD j 0)) ∈ FL := by decide +kernel
theorem fl_cs : Cond.eq (.static "java/lang/String" "COMPACT_STRINGS" "Z") (.int 1) ∈ FL := by decide +kernel
theorem fl_sf : Cond.isRef (.static "jdk/internal/util/Preconditions" "SIOOBE_FORMATTER" "Ljava/util/function/BiFunction;") ∈ FL := by decide +kernel
/-- what holds at the start of the constants and the classes -/
theorem start_E {p : Program} {s : State} {m : MethodId} {meth : Method} {c : Code} {b L : Nat} {xs : Nat → Int32} (C0 : lw_At p s m meth c b L xs) : ∃ g : Gl, g.1 = s.heap.size ∧ g.2.2.2.1 = s.heap ∧ Ev g s := by
  obtain ⟨hx, hb, hr, hml, hown, hts, hX, hbl, hlocks, hgv⟩ := C0
  have htU : ∀ w ∈ UW, w.before #[Value.ref b] s = true := fun w hw => hts w (List.mem_filter.mp hw).1
  have htT : ∀ w ∈ tables_1, w.before #[Value.ref b] s = true := fun w hw => hts w (List.mem_append_right _ hw)
  have hfl : ∀ w ∈ FL, w.before #[Value.ref b] s = true := flat_of_before _ hgv
  have hA : ∀ a : Nat, a < s.heap.size → ¬ (fun q : Nat => s.heap.size ≤ q) a := fun a h q => by
    have q : s.heap.size ≤ a := q
    omega
  obtain ⟨z, hz⟩ := Classical.axiomOfChoice (known_all htU)
  obtain ⟨cI, i1, i2⟩ := arr_prim (ty := .int) (fun C h => by cases h) (htU _ ac_int)
  obtain ⟨cJ, j1, j2⟩ := arr_prim (ty := .long) (fun C h => by cases h) (htU _ ac_long)
  obtain ⟨cZ, z1, z2⟩ := arr_prim (ty := .boolean) (fun C h => by cases h) (htU _ ac_boolean)
  have hao : (Cond.arrayOver (.object RX6)).before #[Value.ref b] s = true := htT _ (tb1 (i := 118) rfl)
  obtain ⟨cT, t1, t2⟩ := arr_obj hao
  obtain ⟨tA, vA, TA⟩ := va_Tof (s := s) (args := #[Value.ref b]) (tm := tmA) (ty := .int) (N := 7) (f := fun j => .int (aboveT.getD j 0)) (A := fun q : Nat => s.heap.size ≤ q) (by decide) (hfl _ fl_aa) (va_eqt (hfl _ fl_al)) (fun j hj => va_eqt (hfl _ (fl_ae j hj))) hA
  obtain ⟨tB, vB, TB⟩ := va_Tof (s := s) (args := #[Value.ref b]) (tm := tmB) (ty := .int) (N := 21) (f := fun j => .int (bodiesT.getD j 0)) (A := fun q : Nat => s.heap.size ≤ q) (by decide) (hfl _ fl_ba) (va_eqt (hfl _ fl_bl)) (fun j hj => va_eqt (hfl _ (fl_be j hj))) hA
  have ZA := va_Zref (A := fun q : Nat => s.heap.size ≤ q) (htT (Cond.laysStatic "RefusalMaps" "ABOVE" "[I") (tb3 (i := 219) rfl)) (htT (Cond.initialized "RefusalMaps") (tb1 (i := 1) rfl)) vA hA
  have ZB := va_Zref (A := fun q : Nat => s.heap.size ≤ q) (htT (Cond.laysStatic "RefusalMaps$Acts" "BODIES" "[I") (tb3 (i := 195) rfl)) (htT (Cond.initialized "RefusalMaps$Acts") (tb1 (i := 5) rfl)) vB hA
  have ZC := va_Zof (A := fun q : Nat => s.heap.size ≤ q) (htT (Cond.laysStatic "java/lang/String" "COMPACT_STRINGS" "Z") (tb2 (i := 205) rfl)) (htT (Cond.initialized "java/lang/String") (tb1 (i := 14) rfl)) (va_eqt (hfl _ fl_cs)) hA
  have ZS := va_Zqof (A := fun q : Nat => s.heap.size ≤ q) (htT (Cond.laysStatic "jdk/internal/util/Preconditions" "SIOOBE_FORMATTER" "Ljava/util/function/BiFunction;") (tb2 (i := 221) rfl)) (htT (Cond.initialized "jdk/internal/util/Preconditions") (tb1 (i := 16) rfl)) (hfl _ fl_sf) hA
  obtain ⟨adK, adV, hS, hev⟩ := vk_Sof (args := #[Value.ref b]) (s := s) (N := 5) (tm := tmS) (len := strLen) (byt := strByt) (A := fun q : Nat => s.heap.size ≤ q) (by decide) (fun i hi => hfl _ (fl_ex i hi)) (fun i hi => hfl _ (fl_co i hi)) (fun i hi => hfl _ (fl_ar i hi)) (fun i hi => hfl _ (fl_le i hi)) (fun i hi j hj => hfl _ (fl_el i hi j hj))
    (fun i j hi hj hij => (fl_ne i hi j hj hij).elim (fun h => Or.inl (hfl _ h)) (fun h => Or.inr (hfl _ h))) hA
  refine ⟨(s.heap.size, (fun k => (z k).1, fun k => (z k).2), (cI, cJ, cZ, cT), s.heap, adK, adV), rfl, rfl, rfl, ⟨fun k q hq => hz k q hq, fun k q hq => ?_⟩, ⟨tA, ZA, TA⟩, ⟨tB, ZB, TB⟩, hS, vk_R.of (htT _ (tb2 (i := 191) rfl)) (hev 0 (by decide)), vk_R.of (htT _ (tb3 (i := 15) rfl)) (hev 1 (by decide)), vk_R.of (htT _ (tb3 (i := 16) rfl)) (hev 2 (by decide)), vk_R.of (htT _ (tb3 (i := 29) rfl)) (hev 3 (by decide)), vk_R.of (htT _ (tb3 (i := 34) rfl)) (hev 4 (by decide)), ZC, ZS, va_AO.of hao, va_tabs rfl rfl (htT _ (tb1 (i := 65) rfl))⟩
  match k, hq with
  | 0, hq => cases hq; exact ⟨i1, i2⟩
  | 1, hq => cases hq; exact ⟨j1, j2⟩
  | 2, hq => cases hq; exact ⟨z1, z2⟩
  | 3, hq => cases hq; exact ⟨t1, t2⟩
  | k + 4, hq => cases hq
/-- YOUR PART: from the entry, for every script of at most 3072 ints, the law comes to its end with true -/
theorem whole_start {p : Program} {e : Env} {s : State} {m : MethodId} {below : List Frame} {meth : Method} {c : Code} (l : Launch) (hflags : l.flags = flags0) {b L : Nat} {xs : Nat → Int32} (hL : L ≤ 3072) (C0 : lw_At p s m meth c b L xs) : W p l e room_1 s m #[Value.ref b] below meth c s.heap [] 0 0 (lw_Z below #[Value.ref b] s) (entryFrame m ([Value.ref b] : List Value).toArray 4) := by
  obtain ⟨g, g1, g2, hE⟩ := start_E C0
  obtain ⟨hx, hb, hr, hml, hown, hts, hX, hbl, hlocks, hgv⟩ := id C0
  have htU : ∀ w ∈ UW, w.before #[Value.ref b] s = true := fun w hw => hts w (List.mem_filter.mp hw).1
  have hScr : ScrF g (p, l, e, room_1, s, m, #[Value.ref b], below, meth, c, lw_Z below #[Value.ref b] s) b L xs := ⟨by rw [g2]; exact hX, by rw [g1]; exact hbl, hL⟩
  have hend : ∀ (I2 : Ty) (L2 : TL) (R2 : TR) (N2 : TN) (n2 i2 kr2 sr2 : Nat), V g (p, l, e, room_1, s, m, #[Value.ref b], below, meth, c, lw_Z below #[Value.ref b] s) cL_law RL 4 100 1295 (lvL g b i2) [] I2 L2 R2 N2 n2 kr2 sr2 := by
    intro I2 L2 R2 N2 n2 i2 kr2 sr2
    refine v_iconst (v := 1) dL_law_1295 (by decide) ?_
    intro hF H locs ls kc ks h1 h2 hH hLo hlv
    have h1 : kc + kr2 ≤ room_1.cells := h1
    have h2 : ks + sr2 ≤ room_1.slots := h2
    refine va_forget (fun q hq => by rw [← g1]; exact hLo q hq) ?_
    refine W.widen (k := 600000) (n := 7302250) (Nat.le_trans (Nat.le_add_right _ _) h1) (Nat.le_trans (Nat.le_add_right _ _) h2) ?_
    exact lw_ret hx hb hr hlocks dL_law_1296
  rw [lg_entry_eq]
  exact law_all hScr hend ⟨hx, hb, hml, hown, htU, hE, by decide, by decide⟩ s.heap [] _ 0 0 (show 0 + 1144 ≤ 600000 from Nat.le_of_ble_eq_true rfl) (show 0 + 55467 ≤ 7302250 from Nat.le_of_ble_eq_true rfl) ⟨by rw [g1]; rfl, fun q _ => by rw [g2], fun k hk => absurd hk (Nat.not_lt_zero k)⟩ (fun q hq => by cases hq) (lv_entry ([.ref b]) (n := 4) (Nat.le_of_ble_eq_true rfl))

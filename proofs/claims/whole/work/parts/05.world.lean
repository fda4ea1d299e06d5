/-! The abstract world: cells 0, 1, 2 .. in the order in which the law makes them, at the addresses g.1, g.1 + 1 .. behind the start's heap -/
abbrev Gl : Type := Nat × va_G × (ClassId × ClassId × ClassId × ClassId) × Heap × (Nat → Nat) × (Nat → Nat)
abbrev Fx : Type := Program × Launch × Env × Room × State × MethodId × Array Value × List Frame × Method × Code × (State → Prop)
abbrev Ty : Type := Nat → Nat → Int32
abbrev TL : Type := Nat → Nat → Int64
abbrev TR : Type := Nat → Nat → Option Nat
abbrev TN : Type := Nat → Nat
abbrev Post : Type := Option Value → Ty → TL → TR → TN → Nat → Prop
def UW : List Cond := lw_tbl.filter goodWord
def NB : Nat := 116
/-- the kind of a cell: 0 .. 8 an object of that class of vwCl, 9 int[], 10 long[], 11 boolean[], 12 Tape[] -/
def kdL : List Nat := [7, 1, 5, 9, 5, 9, 5, 9, 1, 5, 9, 5, 9, 5, 9, 4, 9, 9, 0, 9, 12, 3, 9, 2, 9, 9, 9, 9, 9, 9, 9, 9, 9, 2, 9, 9, 9, 9, 9, 9, 9, 9, 9, 2, 9, 9, 9, 9, 9, 9, 9, 9, 9, 6, 10, 6, 10, 6, 10, 6, 10, 6, 10, 6, 10, 8, 9, 9, 9, 9, 9, 9, 9, 9, 9, 9, 9, 9, 9, 9, 9, 9, 9, 11, 9, 9, 9, 9, 9, 9, 9, 9, 9, 9, 9, 9, 9, 9, 9, 9, 9, 9, 9, 9, 9, 9, 9, 9, 9, 9, 9, 9, 9, 9, 10, 10]
def kd (k : Nat) : Nat := if k < 116 then kdL.getD k 9 else if (k - 116) % 2 = 0 then 9 else 3
/-- the lengths of the arrays, and (nl) of the nations' steps -/
def lenL : List Nat := [0, 0, 0, 15, 0, 24, 0, 24, 0, 0, 15, 0, 24, 0, 24, 0, 100, 100, 0, 20, 6, 0, 0, 0, 16, 6, 6, 6, 6, 6, 6, 24, 8, 0, 16, 6, 6, 6, 6, 6, 6, 24, 8, 0, 16, 6, 6, 6, 6, 6, 6, 24, 8, 0, 60, 0, 60, 0, 60, 0, 60, 0, 60, 0, 60, 0, 16, 6, 6, 6, 6, 6, 6, 24, 100, 6, 60, 60, 60, 60, 600, 101, 12, 100, 16, 6, 6, 6, 6, 5, 5, 5, 8, 8, 8, 8, 16, 6, 6, 6, 6, 6, 6, 24, 5, 5, 5, 8, 8, 8, 8, 20, 6, 6, 360, 60]
def NT (nl : Nat → Nat) : TN := fun k => if k < 116 then lenL.getD k 0 else nl ((k - 116) / 2)
/-- the references, where three lands have nations na, nt, ni (0 nobody, i + 1 the i-th) -/
def ncell (i : Nat) : Nat := if i = 0 then 21 else 116 + 2 * (i - 1) + 1
def RT (na nt ni : Nat) : TR := fun k j => match k with
  | 0 => (match j with | 0 => some (23) | 1 => some (33) | 2 => some (1) | 3 => some (43) | 4 => some (8) | 6 => some (15) | 8 => some (18) | 9 => some (20) | _ => none)
  | 1 => (match j with | 0 => some (2) | 1 => some (4) | 2 => some (6) | _ => none)
  | 2 => (match j with | 2 => some (3) | _ => none)
  | 4 => (match j with | 2 => some (5) | _ => none)
  | 6 => (match j with | 2 => some (7) | _ => none)
  | 8 => (match j with | 0 => some (9) | 1 => some (11) | 2 => some (13) | _ => none)
  | 9 => (match j with | 2 => some (10) | _ => none)
  | 11 => (match j with | 2 => some (12) | _ => none)
  | 13 => (match j with | 2 => some (14) | _ => none)
  | 15 => (match j with | 2 => some (16) | 3 => some (17) | _ => none)
  | 18 => (match j with | 4 => some (19) | _ => none)
  | 21 => (match j with | 1 => some (22) | _ => none)
  | 23 => (match j with | 0 => some (24) | 2 => some (25) | 3 => some (26) | 4 => some (27) | 5 => some (28) | 6 => some (29) | 7 => some (30) | 8 => some (31) | 10 => some (ncell na) | 12 => some (32) | _ => none)
  | 33 => (match j with | 0 => some (34) | 2 => some (35) | 3 => some (36) | 4 => some (37) | 5 => some (38) | 6 => some (39) | 7 => some (40) | 8 => some (41) | 10 => some (ncell nt) | 12 => some (42) | _ => none)
  | 43 => (match j with | 0 => some (44) | 2 => some (45) | 3 => some (46) | 4 => some (47) | 5 => some (48) | 6 => some (49) | 7 => some (50) | 8 => some (51) | 10 => some (ncell ni) | 12 => some (52) | _ => none)
  | 53 => (match j with | 2 => some (54) | _ => none)
  | 55 => (match j with | 2 => some (56) | _ => none)
  | 57 => (match j with | 2 => some (58) | _ => none)
  | 59 => (match j with | 2 => some (60) | _ => none)
  | 61 => (match j with | 2 => some (62) | _ => none)
  | 63 => (match j with | 2 => some (64) | _ => none)
  | 65 => (match j with | 2 => some (66) | 3 => some (67) | 4 => some (68) | 5 => some (69) | 6 => some (70) | 7 => some (71) | 8 => some (72) | 9 => some (73) | 15 => some (74) | 16 => some (75) | 17 => some (76) | 18 => some (77) | 19 => some (78) | 20 => some (79) | 21 => some (80) | 22 => some (81) | 26 => some (82) | 27 => some (83) | 28 => some (84) | 31 => some (85) | 32 => some (86) | 33 => some (87) | 34 => some (88) | 36 => some (89) | 37 => some (90) | 38 => some (91) | 41 => some (92) | 42 => some (93) | 43 => some (94) | 44 => some (95) | 52 => some (96) | 53 => some (97) | 54 => some (98) | 55 => some (99) | 56 => some (100) | 57 => some (101) | 58 => some (102) | 59 => some (103) | 60 => some (104) | 61 => some (105) | 62 => some (106) | 63 => some (107) | 64 => some (108) | 65 => some (109) | 66 => some (110) | 68 => some (111) | 69 => some (112) | 70 => some (113) | 71 => some (114) | 72 => some (115) | _ => none)
  | 20 => (if j < 6 then some (53 + 2 * j) else none)
  | k => if k < 116 then none else (match j with | 1 => some (k - 1) | _ => none)
def fld (b0 : Nat) (Ik : Nat → Int32) (Rk : Nat → Option Nat) : Nat → List Value
  | 0 => [.int (Ik 0), .int (Ik 1), .int (Ik 2), .int (Ik 3), va_rf ((Rk 4).map (b0 + ·))]
  | 1 => [va_rf ((Rk 0).map (b0 + ·)), va_rf ((Rk 1).map (b0 + ·)), va_rf ((Rk 2).map (b0 + ·))]
  | 2 => [va_rf ((Rk 0).map (b0 + ·)), .int (Ik 1), va_rf ((Rk 2).map (b0 + ·)), va_rf ((Rk 3).map (b0 + ·)), va_rf ((Rk 4).map (b0 + ·)), va_rf ((Rk 5).map (b0 + ·)), va_rf ((Rk 6).map (b0 + ·)), va_rf ((Rk 7).map (b0 + ·)), va_rf ((Rk 8).map (b0 + ·)), .int (Ik 9), va_rf ((Rk 10).map (b0 + ·)), .int (Ik 11), va_rf ((Rk 12).map (b0 + ·))]
  | 3 => [.int (Ik 0), va_rf ((Rk 1).map (b0 + ·))]
  | 4 => [.int (Ik 0), .int (Ik 1), va_rf ((Rk 2).map (b0 + ·)), va_rf ((Rk 3).map (b0 + ·)), .int (Ik 4), .int (Ik 5), .int (Ik 6)]
  | 5 => [.int (Ik 0), .int (Ik 1), va_rf ((Rk 2).map (b0 + ·))]
  | 6 => [.int (Ik 0), .int (Ik 1), va_rf ((Rk 2).map (b0 + ·))]
  | 7 => [va_rf ((Rk 0).map (b0 + ·)), va_rf ((Rk 1).map (b0 + ·)), va_rf ((Rk 2).map (b0 + ·)), va_rf ((Rk 3).map (b0 + ·)), va_rf ((Rk 4).map (b0 + ·)), .int (Ik 5), va_rf ((Rk 6).map (b0 + ·)), .int (Ik 7), va_rf ((Rk 8).map (b0 + ·)), va_rf ((Rk 9).map (b0 + ·))]
  | 8 => [.int (Ik 0), .int (Ik 1), va_rf ((Rk 2).map (b0 + ·)), va_rf ((Rk 3).map (b0 + ·)), va_rf ((Rk 4).map (b0 + ·)), va_rf ((Rk 5).map (b0 + ·)), va_rf ((Rk 6).map (b0 + ·)), va_rf ((Rk 7).map (b0 + ·)), va_rf ((Rk 8).map (b0 + ·)), va_rf ((Rk 9).map (b0 + ·)), .int (Ik 10), .int (Ik 11), .int (Ik 12), .int (Ik 13), .int (Ik 14), va_rf ((Rk 15).map (b0 + ·)), va_rf ((Rk 16).map (b0 + ·)), va_rf ((Rk 17).map (b0 + ·)), va_rf ((Rk 18).map (b0 + ·)), va_rf ((Rk 19).map (b0 + ·)), va_rf ((Rk 20).map (b0 + ·)), va_rf ((Rk 21).map (b0 + ·)), va_rf ((Rk 22).map (b0 + ·)), .int (Ik 23), .int (Ik 24), .int (Ik 25), va_rf ((Rk 26).map (b0 + ·)), va_rf ((Rk 27).map (b0 + ·)), va_rf ((Rk 28).map (b0 + ·)), .int (Ik 29), .int (Ik 30), va_rf ((Rk 31).map (b0 + ·)), va_rf ((Rk 32).map (b0 + ·)), va_rf ((Rk 33).map (b0 + ·)), va_rf ((Rk 34).map (b0 + ·)), .int (Ik 35), va_rf ((Rk 36).map (b0 + ·)), va_rf ((Rk 37).map (b0 + ·)), va_rf ((Rk 38).map (b0 + ·)), .int (Ik 39), .int (Ik 40), va_rf ((Rk 41).map (b0 + ·)), va_rf ((Rk 42).map (b0 + ·)), va_rf ((Rk 43).map (b0 + ·)), va_rf ((Rk 44).map (b0 + ·)), .int (Ik 45), .int (Ik 46), .int (Ik 47), .int (Ik 48), .int (Ik 49), .int (Ik 50), .int (Ik 51), va_rf ((Rk 52).map (b0 + ·)), va_rf ((Rk 53).map (b0 + ·)), va_rf ((Rk 54).map (b0 + ·)), va_rf ((Rk 55).map (b0 + ·)), va_rf ((Rk 56).map (b0 + ·)), va_rf ((Rk 57).map (b0 + ·)), va_rf ((Rk 58).map (b0 + ·)), va_rf ((Rk 59).map (b0 + ·)), va_rf ((Rk 60).map (b0 + ·)), va_rf ((Rk 61).map (b0 + ·)), va_rf ((Rk 62).map (b0 + ·)), va_rf ((Rk 63).map (b0 + ·)), va_rf ((Rk 64).map (b0 + ·)), va_rf ((Rk 65).map (b0 + ·)), va_rf ((Rk 66).map (b0 + ·)), .int (Ik 67), va_rf ((Rk 68).map (b0 + ·)), va_rf ((Rk 69).map (b0 + ·)), va_rf ((Rk 70).map (b0 + ·)), va_rf ((Rk 71).map (b0 + ·)), va_rf ((Rk 72).map (b0 + ·))]
  | _ => []
def ent (g : Gl) (Ik : Nat → Int32) (Lk : Nat → Int64) (Rk : Nat → Option Nat) (nk : Nat) (kind : Nat) : va_E :=
  if kind < 9 then .inr (kind, fld g.1 Ik Rk kind) else if kind = 9 then .inl (g.2.2.1.1, nk, .inl Ik) else if kind = 10 then .inl (g.2.2.1.2.1, nk, .inr (.inl Lk)) else if kind = 11 then .inl (g.2.2.1.2.2.1, nk, .inl Ik)
  else .inl (g.2.2.1.2.2.2, nk, .inr (.inr (.inr (.inr (fun j => (Rk j).map (g.1 + ·))))))
/-- the heap: the start's cells as they were, behind them the world's n cells -/
def Hp (g : Gl) (I : Ty) (L : TL) (R : TR) (N : TN) (n : Nat) (H : Heap) : Prop :=
  H.size = g.1 + n ∧ (∀ q : Nat, q < g.1 → H[q]? = g.2.2.2.1[q]?) ∧ ∀ k : Nat, k < n → va_at g.2.1 vwCl (g.1 + k, ent g (I k) (L k) (R k) (N k) (kd k)) H
abbrev tyG (g : Gl) : List (ClassId × FieldType) := [(g.2.2.1.1, .int), (g.2.2.1.2.1, .long), (g.2.2.1.2.2.1, .boolean), (g.2.2.1.2.2.2, .object RX6)]
abbrev AG (g : Gl) : Nat → Prop := fun q => g.1 ≤ q
def aboveT : List Int32 := [-1, 0, 0, 0, 1, 2, 3]
def bodiesT : List Int32 := [10, 10, 30, 10, 50, 30, 71, 11, 20, 11, 11, 51, 11, 70, 12, 12, 12, 40, 12, 60, 40]
def strLen : List Nat := [5, 5, 5, 6, 3]
def strByt : List (List Int32) := [[102, 97, 100, 101, 32], [111, 112, 101, 110, 32], [115, 104, 117, 116, 32], [112, 107, 118, 99, 103, 104], [60, 61, 62]]
/-- what the start gives of constants -/
def Sx (g : Gl) (U : State) : Prop :=
  (∃ t : Nat, va_Z RX8 "ABOVE" "[I" (.ref t) (AG g) U g.2.2.2.1 ∧ va_T .int t 7 (fun j => .int (aboveT.getD j 0)) (AG g) U g.2.2.2.1) ∧
  (∃ t : Nat, va_Z RX0 "BODIES" "[I" (.ref t) (AG g) U g.2.2.2.1 ∧ va_T .int t 21 (fun j => .int (bodiesT.getD j 0)) (AG g) U g.2.2.2.1) ∧
  vk_S 5 strLen strByt g.2.2.2.2.1 g.2.2.2.2.2 (AG g) U g.2.2.2.1 ∧
  vk_R RX4 52 "fade " (g.2.2.2.2.1 0) U ∧ vk_R RX4 64 "open " (g.2.2.2.2.1 1) U ∧ vk_R RX4 66 "shut " (g.2.2.2.2.1 2) U ∧ vk_R RX4 82 "pkvcgh" (g.2.2.2.2.1 3) U ∧ vk_R RX4 88 "<=>" (g.2.2.2.2.1 4) U ∧
  va_Z RJ0 "COMPACT_STRINGS" "Z" (.int 1) (AG g) U g.2.2.2.1 ∧ va_Zq RJ3 "SIOOBE_FORMATTER" "Ljava/util/function/BiFunction;" (AG g) U g.2.2.2.1 ∧ va_AO RX6 U ∧ va_Nw (.methodLinkNest RX8 23 yX4_init RX8) U
def Ev (g : Gl) (U : State) : Prop := g.2.2.2.1.size = g.1 ∧ va_K g.2.1 vwCl (tyG g) U ∧ Sx g U
theorem Ev.same {g : Gl} {u U : State} (hv : U.vm = u.vm) (h : Ev g u) : Ev g U := by
  have hA : u.vm.Alike U.vm := by rw [hv]; exact Vm.Alike.refl _
  obtain ⟨hz, hK, ⟨t1, a1, a2⟩, ⟨t2, b1, b2⟩, c1, c2, c3, c4, c5, c6, c7, c8, c9, c10⟩ := h
  exact ⟨hz, va_K.moved hA hK, ⟨t1, a1.moved hA, a2.moved hA⟩, ⟨t2, b1.moved hA, b2.moved hA⟩, c1.moved hA, c2.same hv, c3.same hv, c4.same hv, c5.same hv, c6.same hv, c7.moved hA, c8.moved hA, c9.moved hA, va_Nw.same rfl hv.symm c10⟩
theorem Ev.warm {g : Gl} {s U : State} (hW : s.WarmedH U.vm) (h : Ev g s) : Ev g U := by
  have hA : s.vm.Alike U.vm := hW.alike
  obtain ⟨hz, hK, ⟨t1, a1, a2⟩, ⟨t2, b1, b2⟩, c1, c2, c3, c4, c5, c6, c7, c8, c9, c10⟩ := h
  exact ⟨hz, va_K.moved hA hK, ⟨t1, a1.moved hA, a2.moved hA⟩, ⟨t2, b1.moved hA, b2.moved hA⟩, c1.moved hA, c2.warm hW, c3.warm hW, c4.warm hW, c5.warm hW, c6.warm hW, c7.moved hA, c8.moved hA, c9.moved hA, c10.warmM hW⟩
theorem Hp.set {g : Gl} {I I' : Ty} {L L' : TL} {R R' : TR} {N N' : TN} {n k : Nat} {H H1 : Heap} (h : Hp g I L R N n H) (hk : k < n) (z : H1.size = H.size) (oq : ∀ q : Nat, q ≠ g.1 + k → H1[q]? = H[q]?)
    (hI : ∀ j, j ≠ k → I' j = I j) (hL : ∀ j, j ≠ k → L' j = L j) (hR : ∀ j, j ≠ k → R' j = R j) (hN : ∀ j, j ≠ k → N' j = N j) (he : va_at g.2.1 vwCl (g.1 + k, ent g (I' k) (L' k) (R' k) (N' k) (kd k)) H1) : Hp g I' L' R' N' n H1 := by
  refine ⟨z.trans h.1, fun q hq => (oq q (by omega)).trans (h.2.1 q hq), fun j hj => ?_⟩
  by_cases e : j = k
  · subst e; exact he
  · rw [hI j e, hL j e, hR j e, hN j e]
    exact (h.2.2 j hj).kept (oq _ (by show g.1 + j ≠ g.1 + k; omega))
/-- the judgement: from this point on, in any heap that holds the world, the machine comes to the end asked for; kr, sr: what may still be made -/
def Fok (g : Gl) (F : Fx) (cc : ByteArray) (own : String) (nL d : Nat) : Prop :=
  match F with
  | (p, _, _, Rm, s, m, args, _, _, c, _) => p.tables.exec = Jvm.exec ∧ c.code = cc ∧ c.maxLocals = nL ∧ s.vm.findClass own = some m.cls ∧ (∀ w ∈ UW, w.before args s = true) ∧ Ev g s ∧ d ≤ Rm.frames ∧ 60 * d ≤ Rm.locals
def V (g : Gl) (F : Fx) (cc : ByteArray) (own : String) (nL d pc : Nat) (lv : List (Nat × Value)) (st : List Value) (I : Ty) (L : TL) (R : TR) (N : TN) (n kr sr : Nat) : Prop :=
  Fok g F cc own nL d → ∀ (H : Heap) (locs : List Loc) (ls : Array Slot) (kc ks : Nat), kc + kr ≤ F.2.2.2.1.cells → ks + sr ≤ F.2.2.2.1.slots → Hp g I L R N n H → (∀ q ∈ locs, g.1 ≤ q.base) → lv_has ls nL lv →
    W F.1 F.2.1 F.2.2.1 F.2.2.2.1 F.2.2.2.2.1 F.2.2.2.2.2.1 F.2.2.2.2.2.2.1 F.2.2.2.2.2.2.2.1 F.2.2.2.2.2.2.2.2.1 F.2.2.2.2.2.2.2.2.2.1 H locs kc ks F.2.2.2.2.2.2.2.2.2.2 (F0 F.2.2.2.2.2.1 pc ls st)
def Qq (g : Gl) (post : Post) : Array Value → State → Outcome → State → Prop := fun _ _ oc t => ∃ (v : Option Value) (I : Ty) (L : TL) (R : TR) (N : TN) (n : Nat), oc = .returned v ∧ post v I L R N n ∧ Hp g I L R N n t.heap
/-- the frame ends with this return type, and owes post -/
def Fret (g : Gl) (F : Fx) (ret : Option FieldType) (post : Post) : Prop :=
  F.2.2.2.2.2.2.2.2.2.2 = MQ F.2.2.2.2.2.2.2.1 (Qq g post) F.2.2.2.2.2.2.1 F.2.2.2.2.1 F.2.2.2.1.cells F.2.2.2.1.slots (AG g) ∧ F.2.2.2.2.2.2.2.2.1.sig.returnType = ret ∧ F.2.2.2.2.2.2.2.2.1.locks = false
abbrev rmD (d mc ms : Nat) : Room := { frames := d, cells := mc, slots := ms, locals := 60 * d }
abbrev PcD (g : Gl) (args : List Value) (I : Ty) (L : TL) (R : TR) (N : TN) (n : Nat) : Array Value → State → Prop := va_Pc args (fun U => Ev g U ∧ Hp g I L R N n U.heap)
/-- a method's contract over the world -/
def Ct (g : Gl) (y : MethodName) (cc : ByteArray) (mL : Nat) (ret : Option FieldType) (d mc ms : Nat) (args : List Value) (I : Ty) (L : TL) (R : TR) (N : TN) (n : Nat) (post : Post) : Prop :=
  ∀ l : Launch, Met l y (Cond.code y cc mL ret :: UW) (rmD d mc ms) (PcD g args I L R N n) (Qq g post) mc ms (AG g)
theorem ct_of {g : Gl} {y : MethodName} {cc : ByteArray} {mL : Nat} {ret : Option FieldType} {d mc ms : Nat} {args : List Value} {I : Ty} {L : TL} {R : TR} {N : TN} {n : Nat} {post : Post} (hy : plainName y.cls = true) (hlen : (lg_sl args).length ≤ mL)
    (hbody : ∀ F : Fx, F.2.2.2.2.2.2.2.2.1.name = y.name → Fret g F ret post → V g F cc y.cls mL d 0 (lv_args 0 args) [] I L R N n mc ms) : Ct g y cc mL ret d mc ms args I L R N n post := by
  intro l
  refine Met.ofW (cc := cc) (maxL := mL) (ret := ret) hy rfl ?_
  intro p e s m a below meth c s₁ B hml hv
  obtain ⟨rfl, hE, hH⟩ := hv
  have hin : meth.name = y.name := (name_of_methodNamed B.named B.method).1
  have hts := atoms_spec (ws := Cond.code y cc mL ret :: UW) B.pre
  have hown : s.vm.findClass y.cls = some m.cls := findClass_of_methodNamed B.named
  have h := hbody (p, l, e, rmD d mc ms, s, m, args.toArray, below, meth, c, MQ below (Qq g post) args.toArray s mc ms (AG g)) hin ⟨rfl, B.returns, B.notSynchronized⟩
    ⟨B.exec, B.bytes, hml, hown, fun w hw => hts w (List.mem_cons_of_mem _ hw), hE, Nat.le_refl _, Nat.le_refl _⟩ s.heap [] _ 0 0 (by simp) (by simp) hH (fun q h => by cases h) (lv_entry args hlen)
  rw [lg_entry_eq]
  exact h


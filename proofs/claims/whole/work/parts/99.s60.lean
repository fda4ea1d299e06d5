/-! a call to both: the same answer, and all is alike again -/
def StpI (g : Gl) (y8 : MethodName) (c8 : ByteArray) (m8 d8 mc ms : Nat) (y9 : MethodName) (c9 : ByteArray) (m9 d9 : Nat) (as : List Value) (I : Ty) (L : TL) (R : TR) (N : TN) (n : Nat) : Prop :=
  ∃ post8 : Post, Ct g y8 c8 m8 (some .int) d8 mc ms (.ref (g.1 + 0) :: as) I L R N n post8 ∧ ∀ (v : Option Value) (I1 : Ty) (L1 : TL) (R1 : TR) (N1 : TN) (n1 : Nat), post8 v I1 L1 R1 N1 n1 → NB ≤ n1 ∧ ∃ r : Int32, v = some (.int r) ∧
    ∃ post9 : Post, Ct g y9 c9 m9 (some .int) d9 0 0 (.ref (g.1 + 65) :: as) I1 L1 R1 N1 n1 post9 ∧ ∀ (v2 : Option Value) (I2 : Ty) (L2 : TL) (R2 : TR) (N2 : TN) (n2 : Nat), post9 v2 I2 L2 R2 N2 n2 → v2 = some (.int r) ∧ JX I2 L2 R2 N2 n2
def StpL (g : Gl) (y8 : MethodName) (c8 : ByteArray) (m8 d8 mc ms : Nat) (y9 : MethodName) (c9 : ByteArray) (m9 d9 : Nat) (as : List Value) (I : Ty) (L : TL) (R : TR) (N : TN) (n : Nat) : Prop :=
  ∃ post8 : Post, Ct g y8 c8 m8 (some .long) d8 mc ms (.ref (g.1 + 0) :: as) I L R N n post8 ∧ ∀ (v : Option Value) (I1 : Ty) (L1 : TL) (R1 : TR) (N1 : TN) (n1 : Nat), post8 v I1 L1 R1 N1 n1 → NB ≤ n1 ∧ ∃ r : Int64, v = some (.long r) ∧
    ∃ post9 : Post, Ct g y9 c9 m9 (some .long) d9 0 0 (.ref (g.1 + 65) :: as) I1 L1 R1 N1 n1 post9 ∧ ∀ (v2 : Option Value) (I2 : Ty) (L2 : TL) (R2 : TR) (N2 : TN) (n2 : Nat), post9 v2 I2 L2 R2 N2 n2 → v2 = some (.long r) ∧ JX I2 L2 R2 N2 n2
theorem ifc_cg {α : Type} {P : Prop} {a b c d : α} (h1 : P → a = c) (h2 : ¬ P → b = d) : ifc P a b = ifc P c d := by
  by_cases h : P
  · rw [ifc_t h, ifc_t h, h1 h]
  · rw [ifc_f h, ifc_f h, h2 h]
theorem ifc_c2 {α : Type} {P Q : Prop} {a b c d : α} (e : P ↔ Q) (h1 : Q → a = c) (h2 : ¬ Q → b = d) : ifc P a b = ifc Q c d := by
  rw [ifc_congr e]; exact ifc_cg h1 h2
section
variable {g : Gl} {I : Ty} {L : TL} {R : TR} {N : TN} {n : Nat} {nl : Nat → Nat} {na nt ni c pp hh : Nat} {y8 y9 : MethodName} {c8 c9 : ByteArray} {m8 m9 d8 d9 : Nat} {as : List Value} {r r9 : Int32} {x x9 : Int64}
theorem JJ_X (h : JJ I L nl na ni c pp hh) (nt : Nat) : JX I L (RT na nt ni) (NT nl) (NB + 2 * c) := ⟨na, nt, ni, c, nl, pp, hh, rfl, rfl, rfl, h⟩
theorem qk (h : JJ I L nl na ni c pp hh) (h8 : Ct g y8 c8 m8 (some .int) d8 0 0 (.ref (g.1 + 0) :: as) I L (RT na nt ni) (NT nl) (NB + 2 * c) (PZ na ni (2 * c) nl (some (.int r)) I L))
    (h9 : ∀ (kp : Ty) (nt' : Nat), ∃ r9, r9 = r ∧ Ct g y9 c9 m9 (some .int) d9 0 0 (.ref (g.1 + 65) :: as) (scC I kp) L (RT na nt' ni) (NT nl) (NB + 2 * c) (Pk (some (.int r9)) (scC I kp) L (RT na nt' ni) (NT nl) (NB + 2 * c))) : StpI g y8 c8 m8 d8 0 0 y9 c9 m9 d9 as I L (RT na nt ni) (NT nl) (NB + 2 * c) := by
  refine ⟨_, h8, fun v I1 L1 R1 N1 n1 hp => ?_⟩
  obtain ⟨rfl, ⟨kp, rfl⟩, rfl, ⟨nt', rfl⟩, rfl, rfl⟩ := hp
  obtain ⟨r9, rfl, hz⟩ := h9 kp nt'
  refine ⟨Nat.le_add_right _ _, _, rfl, _, hz, fun v2 I2 L2 R2 N2 n2 hq => ?_⟩
  obtain ⟨rfl, ⟨kq, kh, rfl⟩, rfl, rfl, rfl, rfl⟩ := hq
  exact ⟨rfl, JJ_X (JJ_sck kq kh (JJ_scC kp h)) nt'⟩
theorem qq (h : JJ I L nl na ni c pp hh) (h8 : Ct g y8 c8 m8 (some .int) d8 0 0 (.ref (g.1 + 0) :: as) I L (RT na nt ni) (NT nl) (NB + 2 * c) (PZ na ni (2 * c) nl (some (.int r)) I L))
    (h9 : ∀ (kp : Ty) (nt' : Nat), ∃ r9, r9 = r ∧ Ct g y9 c9 m9 (some .int) d9 0 0 (.ref (g.1 + 65) :: as) (scC I kp) L (RT na nt' ni) (NT nl) (NB + 2 * c) (Pq (some (.int r9)) (scC I kp) L (RT na nt' ni) (NT nl) (NB + 2 * c))) : StpI g y8 c8 m8 d8 0 0 y9 c9 m9 d9 as I L (RT na nt ni) (NT nl) (NB + 2 * c) := by
  refine ⟨_, h8, fun v I1 L1 R1 N1 n1 hp => ?_⟩
  obtain ⟨rfl, ⟨kp, rfl⟩, rfl, ⟨nt', rfl⟩, rfl, rfl⟩ := hp
  obtain ⟨r9, rfl, hz⟩ := h9 kp nt'
  refine ⟨Nat.le_add_right _ _, _, rfl, _, hz, fun v2 I2 L2 R2 N2 n2 hq => ?_⟩
  obtain ⟨rfl, ⟨f, f2, rfl⟩, rfl, rfl, rfl, rfl⟩ := hq
  exact ⟨rfl, JJ_X (JJ_scr f f2 (JJ_scC kp h)) nt'⟩
theorem qs (h : JJ I L nl na ni c pp hh) (h8 : Ct g y8 c8 m8 (some .int) d8 0 0 (.ref (g.1 + 0) :: as) I L (RT na nt ni) (NT nl) (NB + 2 * c) (PZ na ni (2 * c) nl (some (.int r)) I L))
    (h9 : ∀ (kp : Ty) (nt' : Nat), ∃ r9, r9 = r ∧ Ct g y9 c9 m9 (some .int) d9 0 0 (.ref (g.1 + 65) :: as) (scC I kp) L (RT na nt' ni) (NT nl) (NB + 2 * c) (Ps (some (.int r9)) (scC I kp) L (RT na nt' ni) (NT nl) (NB + 2 * c))) : StpI g y8 c8 m8 d8 0 0 y9 c9 m9 d9 as I L (RT na nt ni) (NT nl) (NB + 2 * c) := by
  refine ⟨_, h8, fun v I1 L1 R1 N1 n1 hp => ?_⟩
  obtain ⟨rfl, ⟨kp, rfl⟩, rfl, ⟨nt', rfl⟩, rfl, rfl⟩ := hp
  obtain ⟨r9, rfl, hz⟩ := h9 kp nt'
  refine ⟨Nat.le_add_right _ _, _, rfl, _, hz, fun v2 I2 L2 R2 N2 n2 hq => ?_⟩
  obtain ⟨rfl, rfl, rfl, rfl, rfl, rfl⟩ := hq
  exact ⟨rfl, JJ_X (JJ_scC kp h) nt'⟩
theorem qql (h : JJ I L nl na ni c pp hh) (h8 : Ct g y8 c8 m8 (some .long) d8 0 0 (.ref (g.1 + 0) :: as) I L (RT na nt ni) (NT nl) (NB + 2 * c) (PZ na ni (2 * c) nl (some (.long x)) I L))
    (h9 : ∀ (kp : Ty) (nt' : Nat), ∃ x9, x9 = x ∧ Ct g y9 c9 m9 (some .long) d9 0 0 (.ref (g.1 + 65) :: as) (scC I kp) L (RT na nt' ni) (NT nl) (NB + 2 * c) (Pq (some (.long x9)) (scC I kp) L (RT na nt' ni) (NT nl) (NB + 2 * c))) : StpL g y8 c8 m8 d8 0 0 y9 c9 m9 d9 as I L (RT na nt ni) (NT nl) (NB + 2 * c) := by
  refine ⟨_, h8, fun v I1 L1 R1 N1 n1 hp => ?_⟩
  obtain ⟨rfl, ⟨kp, rfl⟩, rfl, ⟨nt', rfl⟩, rfl, rfl⟩ := hp
  obtain ⟨r9, rfl, hz⟩ := h9 kp nt'
  refine ⟨Nat.le_add_right _ _, _, rfl, _, hz, fun v2 I2 L2 R2 N2 n2 hq => ?_⟩
  obtain ⟨rfl, ⟨f, f2, rfl⟩, rfl, rfl, rfl, rfl⟩ := hq
  exact ⟨rfl, JJ_X (JJ_scr f f2 (JJ_scC kp h)) nt'⟩
theorem qsl (h : JJ I L nl na ni c pp hh) (h8 : Ct g y8 c8 m8 (some .long) d8 0 0 (.ref (g.1 + 0) :: as) I L (RT na nt ni) (NT nl) (NB + 2 * c) (PZ na ni (2 * c) nl (some (.long x)) I L))
    (h9 : ∀ (kp : Ty) (nt' : Nat), ∃ x9, x9 = x ∧ Ct g y9 c9 m9 (some .long) d9 0 0 (.ref (g.1 + 65) :: as) (scC I kp) L (RT na nt' ni) (NT nl) (NB + 2 * c) (Ps (some (.long x9)) (scC I kp) L (RT na nt' ni) (NT nl) (NB + 2 * c))) : StpL g y8 c8 m8 d8 0 0 y9 c9 m9 d9 as I L (RT na nt ni) (NT nl) (NB + 2 * c) := by
  refine ⟨_, h8, fun v I1 L1 R1 N1 n1 hp => ?_⟩
  obtain ⟨rfl, ⟨kp, rfl⟩, rfl, ⟨nt', rfl⟩, rfl, rfl⟩ := hp
  obtain ⟨r9, rfl, hz⟩ := h9 kp nt'
  refine ⟨Nat.le_add_right _ _, _, rfl, _, hz, fun v2 I2 L2 R2 N2 n2 hq => ?_⟩
  obtain ⟨rfl, rfl, rfl, rfl, rfl, rfl⟩ := hq
  exact ⟨rfl, JJ_X (JJ_scC kp h) nt'⟩
/-- what the class's contracts ask -/
theorem JJ_8 (h : JJ I L nl na ni c pp hh) : pp ≤ 6 ∧ I 23 1 = nI pp ∧ 2 * na ≤ 2 * c ∧ sln nl na ≤ 100 ∧ okSt (I (scell na)) (sln nl na) ∧ okS (mgC23 I) ∧ ChOK (I 29) ∧ okG (I 28) ∧ nbd 9999 (mgC23 I) := by
  obtain ⟨e1, e2, _, _⟩ := JJ_E h
  obtain ⟨j1, j2, j3, _⟩ := h
  obtain ⟨_, _, _, _, _, _, _, _, _, _, w1, w2, w3, w4⟩ := j3
  exact ⟨j2.1, j2.2.2.1, Nat.mul_le_mul_left 2 j1.2.1, e1, e2, w1, w3, w2, w4⟩
/-- what the reference's contracts ask -/
theorem JJ_9 (h : JJ I L nl na ni c pp hh) : I 65 0 = nI pp ∧ mOK I ∧ okS (mget I) ∧ okG (I 70) ∧ I 65 29 = 9999 := by
  obtain ⟨_, _, e3, _⟩ := JJ_E h
  obtain ⟨j1, j2, j3, _⟩ := h
  obtain ⟨_, _, _, w4, w5, _, _, _, _, _, v1, v2, _, _⟩ := j3
  refine ⟨j2.2.2.2.1, e3, ?_, by rw [w5]; exact gF_ok v2, j2.2.2.2.2.2.2.2⟩
  intro p hp
  obtain ⟨c, hc, e⟩ := v1 p hp
  exact ⟨c, hc, (congrFun w4 p).trans e⟩
theorem JJ_Q (h : JJ I L nl na ni c pp hh) (kp : Ty) : EQ (scC I kp) I nl na := (JJ_E h).2.2.2
end

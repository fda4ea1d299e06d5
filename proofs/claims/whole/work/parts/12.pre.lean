def inr (x : Int32) (n : Nat) : Prop := 0 ≤ x.toInt ∧ x.toInt < (n : Int)
abbrev tn (x : Int32) : Nat := x.toNatClampNeg
theorem tn_int {x : Int32} (h : 0 ≤ x.toInt) : (tn x : Int) = x.toInt := by
  show ((x.toInt.toNat : Nat) : Int) = x.toInt
  omega
theorem nI_tn {x : Int32} (h : 0 ≤ x.toInt) : x = nI (tn x) := by
  have h1 := tn_int h
  have h2 := Int32.toInt_lt x
  apply Int32.toInt_inj.mp
  rw [nI_toInt (by omega)]
  omega
theorem inr_nI {x : Int32} {n : Nat} (h : inr x n) : x = nI (tn x) := nI_tn h.1
theorem inr_lt {x : Int32} {n : Nat} (h : inr x n) : tn x < n := by
  have h1 := tn_int h.1
  have h2 := h.2
  omega
theorem tn_nI {k : Nat} (h : k < 2 ^ 31) : tn (nI k) = k := nI_clamp h
theorem inr_of_nI {k n : Nat} (hk : k < 2 ^ 31) : inr (nI k) n ↔ k < n := by
  unfold inr
  rw [nI_toInt hk]
  omega
noncomputable def ifc {α : Type} (P : Prop) (a b : α) : α := @ite α P (Classical.propDecidable P) a b
theorem ifc_t {α : Type} {P : Prop} {a b : α} (h : P) : ifc P a b = a := if_pos h
theorem ifc_f {α : Type} {P : Prop} {a b : α} (h : ¬ P) : ifc P a b = b := if_neg h
theorem ifc_T {α : Type} {a b : α} : ifc True a b = a := ifc_t trivial
theorem ifc_F {α : Type} {a b : α} : ifc False a b = b := ifc_f not_false
theorem ifc_congr {α : Type} {P Q : Prop} {a b : α} (h : P ↔ Q) : ifc P a b = ifc Q a b := by rw [propext h]
noncomputable def bq (P : Prop) : Int32 := ifc P 1 0
theorem bq_t {P : Prop} (h : P) : bq P = 1 := ifc_t h
theorem bq_f {P : Prop} (h : ¬ P) : bq P = 0 := ifc_f h
theorem bq_T : bq True = 1 := ifc_T
theorem bq_F : bq False = 0 := ifc_F
theorem bq_congr {P Q : Prop} (h : P ↔ Q) : bq P = bq Q := by rw [propext h]
theorem bq_or (P : Prop) : bq P = 0 ∨ bq P = 1 := by
  by_cases h : P
  · exact Or.inr (bq_t h)
  · exact Or.inl (bq_f h)
theorem nbq {P : Prop} : narrow .boolean (.int (bq P)) = .int (bq P) := by
  rcases bq_or P with h | h <;> rw [h] <;> rfl
theorem le_inr {x : Int32} {k : Nat} (hk : k + 1 < 2 ^ 31) : (0 ≤ x ∧ x ≤ nI k) ↔ inr x (k + 1) := by
  unfold inr
  rw [Int32.le_iff_toInt_le, Int32.le_iff_toInt_le, nI_toInt (by omega)]
  have : (0 : Int32).toInt = 0 := by decide
  omega
theorem le_inrp {x : Int32} {k : Nat} (hk : k < 2 ^ 30) : (0 ≤ x ∧ x ≤ nI k - 1) ↔ inr x k := by
  unfold inr
  have e : (nI k - 1).toInt = (k : Int) - 1 := pk_sub_toInt (a := k) (b := 1) hk (by decide)
  rw [Int32.le_iff_toInt_le, Int32.le_iff_toInt_le, e]
  have : (0 : Int32).toInt = 0 := by decide
  omega
theorem nx_inc {x : Int32} {a : Nat} (h : x = nI a) : x + 1 = nI (a + 1) := by rw [h]; exact nI_1 a
theorem nx_dec {x : Int32} {a : Nat} (h : x = nI a) (h1 : 1 ≤ a) : x + (-1) = nI (a - 1) := by
  rw [h]
  obtain ⟨b, rfl⟩ : ∃ b, a = b + 1 := ⟨a - 1, by omega⟩
  rw [Nat.add_sub_cancel]
  exact pk_m1 b
theorem nx_add {x y : Int32} {a b : Nat} (h : x = nI a) (h2 : y = nI b) : x + y = nI (a + b) := by rw [h, h2]; exact nI_add a b
theorem nx_mul {x y : Int32} {a b : Nat} (h : x = nI a) (h2 : y = nI b) : x * y = nI (a * b) := by rw [h, h2]; exact pk_mul a b
theorem nx_sub {x y : Int32} {a b : Nat} (h : x = nI a) (h2 : y = nI b) (hb : b ≤ a) : x - y = nI (a - b) := by rw [h, h2]; exact pk_sub hb
theorem nx_div {x : Int32} {a d : Nat} (h : x = nI a) (ha : a < 2 ^ 31) (h0 : 0 < d) (hd : d < 2 ^ 31) : x / nI d = nI (a / d) := by rw [h]; exact pk_div ha h0 hd
theorem nx_rem {x : Int32} {a d : Nat} (h : x = nI a) (ha : a < 2 ^ 31) (h0 : 0 < d) (hd : d < 2 ^ 31) : x - x / nI d * nI d = nI (a % d) := by rw [h]; exact pk_rem ha h0 hd
theorem inr_ex {x : Int32} {n : Nat} (h : inr x n) (hn : n < 2 ^ 31) : ∃ P : Nat, x = nI P ∧ P < n ∧ tn (nI P) = P ∧ ∀ k, inr (nI P) k = (P < k) := by
  have h2 := inr_lt h
  exact ⟨tn x, inr_nI h, h2, tn_nI (by omega), fun k => propext (inr_of_nI (by omega))⟩
theorem inr_m1 (n : Nat) : inr (-1) n = False := propext ⟨fun h => absurd h.1 (by decide), False.elim⟩
theorem eq_t {α : Type} {P : Prop} {v a b : α} (h : P) (e : v = a) : v = ifc P a b := e.trans (ifc_t h).symm
theorem eq_f {α : Type} {P : Prop} {v a b : α} (h : ¬ P) (e : v = b) : v = ifc P a b := e.trans (ifc_f h).symm
theorem sw_out (x : Int32) (lo hi : Int) : x.toInt < lo ∨ hi < x.toInt ∨ (lo ≤ x.toInt ∧ x.toInt ≤ hi) := by omega
theorem sw_eq {x k : Int32} {v : Int} (h : x.toInt = v) (hk : k.toInt = v) : x = k := Int32.toInt_inj.mp (h.trans hk.symm)
theorem sw_ne {x k : Int32} {v : Int} (h : ¬ x = k) (hk : k.toInt = v) : v ≠ x.toInt := fun e => h (Int32.toInt_inj.mp (by rw [hk, e]))
theorem sw_lk : ∀ (l : List (Int × Int)) (dflt k : Int), (∀ q ∈ l, q.1 ≠ k) → Op.lookupswitch.offset l dflt k = dflt
  | [], _, _, _ => rfl
  | (a, o) :: r, dflt, k, h => by
    rw [Op.lookupswitch.offset_cons, if_neg (h (a, o) List.mem_cons_self)]
    exact sw_lk r dflt k (fun q hq => h q (List.mem_cons_of_mem _ hq))
theorem dloop {P : Nat → Prop} (N : Nat) (hex : P N) (hst : ∀ i, i < N → P (i + 1) → P i) : ∀ i, i ≤ N → P i := by
  have key : ∀ k i, i + k = N → P i := by
    intro k
    induction k with
    | zero => intro i h; rw [Nat.add_zero] at h; rw [h]; exact hex
    | succ k ih => intro i h; exact hst i (by omega) (ih (i + 1) (by omega))
  intro i hi
  exact key (N - i) i (by omega)
section
variable {g : Gl} {F : Fx} {cc : ByteArray} {own : String} {nL d pc : Nat} {lv : List (Nat × Value)} {st : List Value} {I : Ty} {L : TL} {R : TR} {N : TN} {n kr sr : Nat}
theorem v_lv {lv2 : List (Nat × Value)} (e : lv = lv2) (k : V g F cc own nL d pc lv2 st I L R N n kr sr) : V g F cc own nL d pc lv st I L R N n kr sr := by rw [e]; exact k
theorem v_inc {i : Nat} {a : Int} {x v : Int32} {lv2 : List (Nat × Value)} (hd : decode cc pc = .ok (.iinc i a, 3)) (q : Nat) (hq : lv[q]? = some (i, .int x)) (hx : x + Int32.ofInt a = v) (hn : i < nL) (hv : (i, Value.int v) :: lv.filter (fun q => !(q.1 == i) && !(q.1 + 1 == i && q.2.category == 2)) = lv2) (k : V g F cc own nL d (pc + 3) lv2 st I L R N n kr sr) : V g F cc own nL d pc lv st I L R N n kr sr := @v_iinc g F cc own nL d pc lv st I L R N n kr sr i 0 a x v lv2 hd q hq hx hn hv k
theorem v_icmp_eqN {x y : Int32} {a b : Nat} {off : Int} {tgt : Nat} (hd : decode cc pc = .ok (.if_icmp .eq off, 3)) (ht : (pc : Int) + off = (tgt : Int)) (hx : x = nI a) (hy : y = nI b) (ha : a < 2 ^ 31) (hb : b < 2 ^ 31) (kt : a = b → V g F cc own nL d tgt lv st I L R N n kr sr) (kf : a ≠ b → V g F cc own nL d (pc + 3) lv st I L R N n kr sr) : V g F cc own nL d pc lv (.int y :: .int x :: st) I L R N n kr sr := by
  subst hx; subst hy
  exact v_icmp_eq hd ht (fun h => kt ((nI_eq ha hb).mp h)) (fun h => kf (fun e => h ((nI_eq ha hb).mpr e)))
theorem v_if_eqN {x : Int32} {a : Nat} {off : Int} {tgt : Nat} (hd : decode cc pc = .ok (.ifCond .eq off, 3)) (ht : (pc : Int) + off = (tgt : Int)) (hx : x = nI a) (ha : a < 2 ^ 31) (kt : a = 0 → V g F cc own nL d tgt lv st I L R N n kr sr) (kf : a ≠ 0 → V g F cc own nL d (pc + 3) lv st I L R N n kr sr) : V g F cc own nL d pc lv (.int x :: st) I L R N n kr sr := by
  subst hx
  have hb : 0 < 2 ^ 31 := by decide
  exact v_if_eq hd ht (fun h => kt (by rw [← nI_0] at h; exact (nI_eq ha hb).mp h)) (fun h => kf (by rw [← nI_0] at h; exact fun e => h ((nI_eq ha hb).mpr e)))
theorem v_icmp_neN {x y : Int32} {a b : Nat} {off : Int} {tgt : Nat} (hd : decode cc pc = .ok (.if_icmp .ne off, 3)) (ht : (pc : Int) + off = (tgt : Int)) (hx : x = nI a) (hy : y = nI b) (ha : a < 2 ^ 31) (hb : b < 2 ^ 31) (kt : a ≠ b → V g F cc own nL d tgt lv st I L R N n kr sr) (kf : a = b → V g F cc own nL d (pc + 3) lv st I L R N n kr sr) : V g F cc own nL d pc lv (.int y :: .int x :: st) I L R N n kr sr := by
  subst hx; subst hy
  exact v_icmp_ne hd ht (fun h => kt (fun e => h ((nI_eq ha hb).mpr e))) (fun h => kf ((nI_eq ha hb).mp h))
theorem v_if_neN {x : Int32} {a : Nat} {off : Int} {tgt : Nat} (hd : decode cc pc = .ok (.ifCond .ne off, 3)) (ht : (pc : Int) + off = (tgt : Int)) (hx : x = nI a) (ha : a < 2 ^ 31) (kt : a ≠ 0 → V g F cc own nL d tgt lv st I L R N n kr sr) (kf : a = 0 → V g F cc own nL d (pc + 3) lv st I L R N n kr sr) : V g F cc own nL d pc lv (.int x :: st) I L R N n kr sr := by
  subst hx
  have hb : 0 < 2 ^ 31 := by decide
  exact v_if_ne hd ht (fun h => kt (by rw [← nI_0] at h; exact fun e => h ((nI_eq ha hb).mpr e))) (fun h => kf (by rw [← nI_0] at h; exact (nI_eq ha hb).mp h))
theorem v_icmp_ltN {x y : Int32} {a b : Nat} {off : Int} {tgt : Nat} (hd : decode cc pc = .ok (.if_icmp .lt off, 3)) (ht : (pc : Int) + off = (tgt : Int)) (hx : x = nI a) (hy : y = nI b) (ha : a < 2 ^ 31) (hb : b < 2 ^ 31) (kt : a < b → V g F cc own nL d tgt lv st I L R N n kr sr) (kf : b ≤ a → V g F cc own nL d (pc + 3) lv st I L R N n kr sr) : V g F cc own nL d pc lv (.int y :: .int x :: st) I L R N n kr sr := by
  subst hx; subst hy
  exact v_icmp_lt hd ht (fun h => kt ((nI_ltI ha hb).mp h)) (fun h => kf (Nat.not_lt.mp (fun e => h ((nI_ltI ha hb).mpr e))))
theorem v_if_ltN {x : Int32} {a : Nat} {off : Int} {tgt : Nat} (hd : decode cc pc = .ok (.ifCond .lt off, 3)) (ht : (pc : Int) + off = (tgt : Int)) (hx : x = nI a) (ha : a < 2 ^ 31) (kt : a < 0 → V g F cc own nL d tgt lv st I L R N n kr sr) (kf : 0 ≤ a → V g F cc own nL d (pc + 3) lv st I L R N n kr sr) : V g F cc own nL d pc lv (.int x :: st) I L R N n kr sr := by
  subst hx
  have hb : 0 < 2 ^ 31 := by decide
  exact v_if_lt hd ht (fun h => kt (by rw [← nI_0] at h; exact (nI_ltI ha hb).mp h)) (fun h => kf (by rw [← nI_0] at h; exact Nat.not_lt.mp (fun e => h ((nI_ltI ha hb).mpr e))))
theorem v_icmp_geN {x y : Int32} {a b : Nat} {off : Int} {tgt : Nat} (hd : decode cc pc = .ok (.if_icmp .ge off, 3)) (ht : (pc : Int) + off = (tgt : Int)) (hx : x = nI a) (hy : y = nI b) (ha : a < 2 ^ 31) (hb : b < 2 ^ 31) (kt : b ≤ a → V g F cc own nL d tgt lv st I L R N n kr sr) (kf : a < b → V g F cc own nL d (pc + 3) lv st I L R N n kr sr) : V g F cc own nL d pc lv (.int y :: .int x :: st) I L R N n kr sr := by
  subst hx; subst hy
  exact v_icmp_ge hd ht (fun h => kt ((nI_leI hb ha).mp h)) (fun h => kf (Nat.not_le.mp (fun e => h ((nI_leI hb ha).mpr e))))
theorem v_if_geN {x : Int32} {a : Nat} {off : Int} {tgt : Nat} (hd : decode cc pc = .ok (.ifCond .ge off, 3)) (ht : (pc : Int) + off = (tgt : Int)) (hx : x = nI a) (ha : a < 2 ^ 31) (kt : 0 ≤ a → V g F cc own nL d tgt lv st I L R N n kr sr) (kf : a < 0 → V g F cc own nL d (pc + 3) lv st I L R N n kr sr) : V g F cc own nL d pc lv (.int x :: st) I L R N n kr sr := by
  subst hx
  have hb : 0 < 2 ^ 31 := by decide
  exact v_if_ge hd ht (fun h => kt (by rw [← nI_0] at h; exact (nI_leI hb ha).mp h)) (fun h => kf (by rw [← nI_0] at h; exact Nat.not_le.mp (fun e => h ((nI_leI hb ha).mpr e))))
theorem v_icmp_gtN {x y : Int32} {a b : Nat} {off : Int} {tgt : Nat} (hd : decode cc pc = .ok (.if_icmp .gt off, 3)) (ht : (pc : Int) + off = (tgt : Int)) (hx : x = nI a) (hy : y = nI b) (ha : a < 2 ^ 31) (hb : b < 2 ^ 31) (kt : b < a → V g F cc own nL d tgt lv st I L R N n kr sr) (kf : a ≤ b → V g F cc own nL d (pc + 3) lv st I L R N n kr sr) : V g F cc own nL d pc lv (.int y :: .int x :: st) I L R N n kr sr := by
  subst hx; subst hy
  exact v_icmp_gt hd ht (fun h => kt ((nI_ltI hb ha).mp h)) (fun h => kf (Nat.not_lt.mp (fun e => h ((nI_ltI hb ha).mpr e))))
theorem v_if_gtN {x : Int32} {a : Nat} {off : Int} {tgt : Nat} (hd : decode cc pc = .ok (.ifCond .gt off, 3)) (ht : (pc : Int) + off = (tgt : Int)) (hx : x = nI a) (ha : a < 2 ^ 31) (kt : 0 < a → V g F cc own nL d tgt lv st I L R N n kr sr) (kf : a ≤ 0 → V g F cc own nL d (pc + 3) lv st I L R N n kr sr) : V g F cc own nL d pc lv (.int x :: st) I L R N n kr sr := by
  subst hx
  have hb : 0 < 2 ^ 31 := by decide
  exact v_if_gt hd ht (fun h => kt (by rw [← nI_0] at h; exact (nI_ltI hb ha).mp h)) (fun h => kf (by rw [← nI_0] at h; exact Nat.not_lt.mp (fun e => h ((nI_ltI hb ha).mpr e))))
theorem v_icmp_leN {x y : Int32} {a b : Nat} {off : Int} {tgt : Nat} (hd : decode cc pc = .ok (.if_icmp .le off, 3)) (ht : (pc : Int) + off = (tgt : Int)) (hx : x = nI a) (hy : y = nI b) (ha : a < 2 ^ 31) (hb : b < 2 ^ 31) (kt : a ≤ b → V g F cc own nL d tgt lv st I L R N n kr sr) (kf : b < a → V g F cc own nL d (pc + 3) lv st I L R N n kr sr) : V g F cc own nL d pc lv (.int y :: .int x :: st) I L R N n kr sr := by
  subst hx; subst hy
  exact v_icmp_le hd ht (fun h => kt ((nI_leI ha hb).mp h)) (fun h => kf (Nat.not_le.mp (fun e => h ((nI_leI ha hb).mpr e))))
theorem v_if_leN {x : Int32} {a : Nat} {off : Int} {tgt : Nat} (hd : decode cc pc = .ok (.ifCond .le off, 3)) (ht : (pc : Int) + off = (tgt : Int)) (hx : x = nI a) (ha : a < 2 ^ 31) (kt : a ≤ 0 → V g F cc own nL d tgt lv st I L R N n kr sr) (kf : 0 < a → V g F cc own nL d (pc + 3) lv st I L R N n kr sr) : V g F cc own nL d pc lv (.int x :: st) I L R N n kr sr := by
  subst hx
  have hb : 0 < 2 ^ 31 := by decide
  exact v_if_le hd ht (fun h => kt (by rw [← nI_0] at h; exact (nI_leI ha hb).mp h)) (fun h => kf (by rw [← nI_0] at h; exact Nat.not_le.mp (fun e => h ((nI_leI ha hb).mpr e))))
theorem v_ifb_eq {P : Prop} {off : Int} {tgt : Nat} (hd : decode cc pc = .ok (.ifCond .eq off, 3)) (ht : (pc : Int) + off = (tgt : Int)) (kt : ¬ P → V g F cc own nL d tgt lv st I L R N n kr sr) (kf : P → V g F cc own nL d (pc + 3) lv st I L R N n kr sr) : V g F cc own nL d pc lv (.int (bq P) :: st) I L R N n kr sr :=
  v_if_eq hd ht (fun h => kt (fun p => by rw [bq_t p] at h; exact absurd h (by decide))) (fun h => kf (Classical.byContradiction fun p => h (bq_f p)))
theorem v_ifb_ne {P : Prop} {off : Int} {tgt : Nat} (hd : decode cc pc = .ok (.ifCond .ne off, 3)) (ht : (pc : Int) + off = (tgt : Int)) (kt : P → V g F cc own nL d tgt lv st I L R N n kr sr) (kf : ¬ P → V g F cc own nL d (pc + 3) lv st I L R N n kr sr) : V g F cc own nL d pc lv (.int (bq P) :: st) I L R N n kr sr :=
  v_if_ne hd ht (fun h => kt (Classical.byContradiction fun p => h (bq_f p))) (fun h => kf (fun p => by rw [bq_t p] at h; exact absurd h (by decide)))
end
theorem psi {v r : Int32} {I I0 : Ty} {L : TL} {R : TR} {N : TN} {n : Nat} (h : v = r) (hI : I = I0) : Ps (some (.int r)) I0 L R N n (some (.int v)) I L R N n := ⟨by rw [h], hI, rfl, rfl, rfl, rfl⟩
theorem psl {v r : Int64} {I I0 : Ty} {L : TL} {R : TR} {N : TN} {n : Nat} (h : v = r) (hI : I = I0) : Ps (some (.long r)) I0 L R N n (some (.long v)) I L R N n := ⟨by rw [h], hI, rfl, rfl, rfl, rfl⟩
theorem psv {I I0 : Ty} {L : TL} {R : TR} {N : TN} {n : Nat} (hI : I = I0) : Ps none I0 L R N n none I L R N n := ⟨rfl, hI, rfl, rfl, rfl, rfl⟩
abbrev wr (I : Ty) (a k : Nat) (v : Int32) : Ty := va_up I a (va_up (I a) k v)
theorem up_self {α : Type} (f : Nat → α) (k : Nat) : va_up f k (f k) = f := by
  funext j; unfold va_up
  by_cases h : j = k
  · rw [if_pos h, h]
  · rw [if_neg h]
theorem up_up {α : Type} (f : Nat → α) (k : Nat) (a b : α) : va_up (va_up f k a) k b = va_up f k b := by
  funext j; unfold va_up
  by_cases h : j = k
  · rw [if_pos h, if_pos h]
  · rw [if_neg h, if_neg h, if_neg h]
theorem up_at {α : Type} (f : Nat → α) (k : Nat) (a : α) : va_up f k a k = a := if_pos rfl
theorem up_off {α : Type} (f : Nat → α) {j k : Nat} (a : α) (h : j ≠ k) : va_up f k a j = f j := if_neg h
def cpn {α : Type} (f g : Nat → α) (i : Nat) : Nat → α := fun j => if j < i then f j else g j
theorem cpn_0 {α : Type} (f g : Nat → α) : cpn f g 0 = g := by funext j; simp [cpn]
theorem cpn_s {α : Type} (f g : Nat → α) (i : Nat) : va_up (cpn f g i) i (f i) = cpn f g (i + 1) := by
  funext j; unfold va_up cpn
  by_cases h : j = i
  · subst h; simp
  · by_cases h2 : j < i
    · have : j < i + 1 := by omega
      simp [h, h2, this]
    · have : ¬ j < i + 1 := by omega
      simp [h, h2, this]

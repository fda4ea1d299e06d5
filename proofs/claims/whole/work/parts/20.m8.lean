/-! ways: how far every cell lies from where one goes -/
/-- the k-th cell next to c (16: there is none) -/
def nb (c k : Nat) : Nat := if k = 0 then (if 4 ≤ c then c - 4 else 16) else if k = 1 then (if c % 4 = 0 then 16 else c - 1) else if k = 2 then (if c % 4 = 3 then 16 else c + 1) else (if 11 < c then 16 else c + 4)
def besI (c k : Nat) : Int32 := if nb c k < 16 then nI (nb c k) else if k = 0 then nI c - 4 else -1
theorem bes_neg : ∀ c, c < 16 → ∀ k, k < 4 → (besI c k < 0 ↔ ¬ nb c k < 16) := by decide +kernel
theorem bes_val : ∀ c, c < 16 → (besI c 0 = nI c - 4) ∧ (besI c 1 = if c % 4 = 0 then -1 else nI c - 1) ∧ (besI c 2 = if c % 4 = 3 then -1 else nI (c + 1)) ∧ (besI c 3 = if 11 < c then -1 else nI (c + 4)) := by decide +kernel
theorem bes_eq {c k : Nat} (h : nb c k < 16) : besI c k = nI (nb c k) := if_pos h
def nearK (D : Nat → Nat) (c : Nat) : Nat → Nat
  | 0 => 99
  | k + 1 => if nb c k < 16 then min (nearK D c k) (D (nb c k) + 1) else nearK D c k
def near (D : Nat → Nat) (c : Nat) : Nat := nearK D c 4
theorem nearK_99 (D : Nat → Nat) (c : Nat) : ∀ K, nearK D c K ≤ 99
  | 0 => Nat.le_refl _
  | K + 1 => by
    have h := nearK_99 D c K
    show (if nb c K < 16 then min (nearK D c K) (D (nb c K) + 1) else nearK D c K) ≤ 99
    split
    · exact Nat.le_trans (Nat.min_le_left _ _) h
    · exact h
theorem nearK_le (D : Nat → Nat) (c : Nat) : ∀ K k, k < K → nb c k < 16 → nearK D c K ≤ D (nb c k) + 1
  | 0, k, h, _ => absurd h (Nat.not_lt_zero k)
  | K + 1, k, h, hn => by
    show (if nb c K < 16 then min (nearK D c K) (D (nb c K) + 1) else nearK D c K) ≤ D (nb c k) + 1
    by_cases e : k = K
    · subst e
      rw [if_pos hn]
      exact Nat.min_le_right _ _
    · have ih := nearK_le D c K k (by omega) hn
      split
      · exact Nat.le_trans (Nat.min_le_left _ _) ih
      · exact ih
theorem nearK_ex (D : Nat → Nat) (c : Nat) : ∀ K, nearK D c K < 99 → ∃ k, k < K ∧ nb c k < 16 ∧ nearK D c K = D (nb c k) + 1
  | 0, h => absurd h (Nat.lt_irrefl 99)
  | K + 1, h => by
    have e : nearK D c (K + 1) = if nb c K < 16 then min (nearK D c K) (D (nb c K) + 1) else nearK D c K := rfl
    rw [e] at h ⊢
    by_cases hn : nb c K < 16
    · rw [if_pos hn] at h ⊢
      by_cases hm : nearK D c K ≤ D (nb c K) + 1
      · rw [Nat.min_eq_left hm] at h ⊢
        obtain ⟨k, h1, h2, h3⟩ := nearK_ex D c K h
        exact ⟨k, by omega, h2, h3⟩
      · rw [Nat.min_eq_right (by omega)]
        exact ⟨K, by omega, hn, rfl⟩
    · rw [if_neg hn] at h ⊢
      obtain ⟨k, h1, h2, h3⟩ := nearK_ex D c K h
      exact ⟨k, by omega, h2, h3⟩
/-- in d steps or fewer one comes from c to gl, by cells that aren't in the set -/
def rch (set : Int32) (gl : Nat) : Nat → Nat → Prop
  | 0, c => c = gl ∧ ¬ hb set gl
  | d + 1, c => rch set gl d c ∨ (¬ hb set c ∧ ∃ k, k < 4 ∧ nb c k < 16 ∧ rch set gl d (nb c k))
theorem rch_mono {set : Int32} {gl c : Nat} : ∀ {d e : Nat}, d ≤ e → rch set gl d c → rch set gl e c := by
  intro d e h
  induction h with
  | refl => exact id
  | step _ ih => exact fun z => Or.inl (ih z)
/-- D is how far each cell lies from gl, 99 where there is no way -/
def isD (set : Int32) (gl : Nat) (D : Nat → Nat) : Prop := ∀ c, c < 16 → D c ≤ 99 ∧ (∀ d, rch set gl d c → D c ≤ d) ∧ (D c < 99 → rch set gl (D c) c)
theorem isD_ex (set : Int32) (gl : Nat) : ∃ D, isD set gl D := by
  have h : ∀ c, ∃ v, v ≤ 99 ∧ (∀ d, rch set gl d c → v ≤ d) ∧ (v < 99 → rch set gl v c) := by
    intro c
    by_cases h : ∃ d, rch set gl d c
    · obtain ⟨d, h1, h2⟩ := pk_least _ h
      by_cases h3 : d ≤ 99
      · exact ⟨d, h3, fun e he => Nat.not_lt.mp fun z => h2 e z he, fun _ => h1⟩
      · exact ⟨99, Nat.le_refl _, fun e he => Nat.not_lt.mp fun z => h2 e (by omega) he, fun z => absurd z (Nat.lt_irrefl _)⟩
    · exact ⟨99, Nat.le_refl _, fun e he => absurd ⟨e, he⟩ h, fun z => absurd z (Nat.lt_irrefl _)⟩
  exact ⟨fun c => (h c).choose, fun c _ => (h c).choose_spec⟩
noncomputable def dst (set : Int32) (gl : Nat) : Nat → Nat := (isD_ex set gl).choose
theorem dst_is (set : Int32) (gl : Nat) : isD set gl (dst set gl) := (isD_ex set gl).choose_spec
theorem isD_eq {set : Int32} {gl : Nat} {D E : Nat → Nat} (h : isD set gl D) (h2 : isD set gl E) {c : Nat} (hc : c < 16) : D c = E c := by
  obtain ⟨a1, a2, a3⟩ := h c hc
  obtain ⟨b1, b2, b3⟩ := h2 c hc
  by_cases x : D c < 99
  · have := b2 _ (a3 x)
    have := a2 _ (b3 (by omega))
    omega
  · by_cases y : E c < 99
    · have := a2 _ (b3 y)
      omega
    · omega
theorem near_congr {D E : Nat → Nat} {c : Nat} (h : ∀ j, j < 16 → D j = E j) : near D c = near E c := by
  have key : ∀ K, nearK D c K = nearK E c K := by
    intro K
    induction K with
    | zero => rfl
    | succ K ih =>
      show (if nb c K < 16 then min (nearK D c K) (D (nb c K) + 1) else nearK D c K) = (if nb c K < 16 then min (nearK E c K) (E (nb c K) + 1) else nearK E c K)
      split
      · rename_i hn
        rw [ih, h _ hn]
      · exact ih
  exact key 4
/-- what is kept while it is laid -/
def jD (set : Int32) (gl : Nat) (D : Nat → Nat) : Prop := (∀ j, j < 16 → D j ≤ 99) ∧ (¬ hb set gl → D gl = 0) ∧ ∀ c, c < 16 → D c < 99 → rch set gl (D c) c
def fixD (set : Int32) (D : Nat → Nat) (n : Nat) : Prop := ∀ c, c < n → ¬ hb set c → D c ≤ near D c
theorem jD_fix {set : Int32} {gl : Nat} {D : Nat → Nat} (h : jD set gl D) (hf : fixD set D 16) : isD set gl D := by
  have key : ∀ d c, c < 16 → rch set gl d c → D c ≤ d := by
    intro d
    induction d with
    | zero =>
      intro c _ hr
      obtain ⟨rfl, h2⟩ := hr
      rw [h.2.1 h2]
      exact Nat.le_refl _
    | succ d ih =>
      intro c hc hr
      rcases hr with hr | ⟨h1, k, hk, hn, h2⟩
      · exact Nat.le_succ_of_le (ih c hc hr)
      · have h3 := ih _ hn h2
        have h4 : near D c ≤ D (nb c k) + 1 := nearK_le D c 4 k hk hn
        have h5 := hf c hc h1
        omega
  exact fun c hc => ⟨h.1 c hc, fun d hd => key d c hc hd, h.2.2 c hc⟩
theorem jD_step {set : Int32} {gl : Nat} {D : Nat → Nat} (h : jD set gl D) {c : Nat} (hc : c < 16) (hs : ¬ hb set c) (hl : near D c < D c) : jD set gl (va_up D c (near D c)) := by
  have h99 := h.1 c hc
  refine ⟨fun j hj => ?_, fun hg => ?_, fun j hj hd => ?_⟩
  · by_cases e : j = c
    · subst e; rw [up_at]; omega
    · rw [up_off _ _ e]; exact h.1 j hj
  · have h0 := h.2.1 hg
    by_cases e : gl = c
    · subst e; omega
    · rw [up_off _ _ e]; exact h0
  · by_cases e : j = c
    · subst e
      rw [up_at] at hd ⊢
      obtain ⟨k, hk, hn, he⟩ := nearK_ex D j 4 hd
      have he : near D j = D (nb j k) + 1 := he
      have hr := h.2.2 _ hn (by omega)
      rw [he]
      exact Or.inr ⟨hs, k, hk, hn, hr⟩
    · rw [up_off _ _ e] at hd ⊢
      exact h.2.2 j hj hd
def muD (D : Nat → Nat) : Nat → Nat
  | 0 => 0
  | j + 1 => muD D j + D j
theorem muD_up (D : Nat → Nat) (c v : Nat) : ∀ n, (n ≤ c → muD (va_up D c v) n = muD D n) ∧ (c < n → muD (va_up D c v) n + D c = muD D n + v)
  | 0 => ⟨fun _ => rfl, fun h => absurd h (Nat.not_lt_zero c)⟩
  | n + 1 => by
    obtain ⟨h1, h2⟩ := muD_up D c v n
    refine ⟨fun h => ?_, fun h => ?_⟩
    · show muD (va_up D c v) n + va_up D c v n = muD D n + D n
      rw [h1 (by omega), up_off _ _ (by omega)]
    · show muD (va_up D c v) n + va_up D c v n + D c = muD D n + D n + v
      by_cases e : n = c
      · subst e
        rw [up_at, h1 (Nat.le_refl _)]
        omega
      · rw [up_off _ _ e]
        have := h2 (by omega)
        omega
noncomputable def lw (set : Int32) (b gl : Nat) : Int32 := ifc (b = gl) 0 (ifc (near (dst set gl) b < 99) (nI (near (dst set gl) b)) (-5))
/-- the first cell next to c from where it is nearest (-5: none) -/
noncomputable def stp (D : Nat → Nat) (c : Nat) : Int32 := ifc (nb c 0 < 16 ∧ D (nb c 0) + 1 = near D c) (nI (nb c 0)) (ifc (nb c 1 < 16 ∧ D (nb c 1) + 1 = near D c) (nI (nb c 1)) (ifc (nb c 2 < 16 ∧ D (nb c 2) + 1 = near D c) (nI (nb c 2)) (ifc (nb c 3 < 16 ∧ D (nb c 3) + 1 = near D c) (nI (nb c 3)) (-5))))
set_option maxRecDepth 100000 in
set_option maxHeartbeats 400000 in
theorem c_bes0 {g : Gl} {I : Ty} {L : TL} {na nt ni m : Nat} {nl : Nat → Nat} (cz : Nat) (hcz : cz < 16) : Ct g yX9_beside cX9_beside 3 (some .int) 0 0 0 [.ref (g.1 + 65), .int (nI cz), .int (nI 0)] I L (RT na nt ni) (NT nl) (NB + m) (Ps (some (.int (besI cz 0))) (I) L (RT na nt ni) (NT nl) (NB + m)) := by
  refine ct_of (by decide +kernel) (Nat.le_of_ble_eq_true rfl) (fun F hnm hr => ?_)
  clear hnm
  show V g F cX9_beside RX9 3 0 0 [(0, .ref (g.1 + 65)), (1, .int (nI cz)), (2, .int 0)] [] I L (RT na nt ni) (NT nl) (NB + m) 0 0
  have hbv := (bes_val cz hcz).1
  refine v_iload_n dX9_beside_0 rfl 2 rfl ?_
  refine v_tabIn (off := 27) (tgt := 28) dX9_beside_1 (by decide) (by decide) (by decide) (by decide) ?_
  refine v_iload_n dX9_beside_28 rfl 1 rfl ?_
  refine v_iconst (v := 4) dX9_beside_29 (by decide) ?_
  refine v_isub dX9_beside_30 ?_
  exact v_iret hr dX9_beside_31 (psi (by first | (rw [hbv]; done) | (rw [hbv, if_pos (by omega)]; done) | (rw [hbv, if_neg (by omega)]; done)) rfl)
set_option maxRecDepth 100000 in
set_option maxHeartbeats 400000 in
theorem c_bes1 {g : Gl} {I : Ty} {L : TL} {na nt ni m : Nat} {nl : Nat → Nat} (cz : Nat) (hcz : cz < 16) : Ct g yX9_beside cX9_beside 3 (some .int) 0 0 0 [.ref (g.1 + 65), .int (nI cz), .int (nI 1)] I L (RT na nt ni) (NT nl) (NB + m) (Ps (some (.int (besI cz 1))) (I) L (RT na nt ni) (NT nl) (NB + m)) := by
  refine ct_of (by decide +kernel) (Nat.le_of_ble_eq_true rfl) (fun F hnm hr => ?_)
  clear hnm
  show V g F cX9_beside RX9 3 0 0 [(0, .ref (g.1 + 65)), (1, .int (nI cz)), (2, .int 1)] [] I L (RT na nt ni) (NT nl) (NB + m) 0 0
  have hbv := (bes_val cz hcz).2.1
  refine v_iload_n dX9_beside_0 rfl 2 rfl ?_
  refine v_tabIn (off := 31) (tgt := 32) dX9_beside_1 (by decide) (by decide) (by decide) (by decide) ?_
  refine v_iload_n dX9_beside_32 rfl 1 rfl ?_
  refine v_iconst (v := 4) dX9_beside_33 (by decide) ?_
  refine v_irem dX9_beside_34 (by decide) ?_
  refine v_is (nx_rem rfl (d := 4) (by omega) (by decide) (by decide)) ?_
  refine v_if_neN (a := (cz % 4)) (tgt := 42) dX9_beside_35 (by decide) rfl (by omega) (fun h1 => ?_) (fun h1 => ?_)
  · -- (cz % 4) ne 0
    refine v_iload_n dX9_beside_42 rfl 1 rfl ?_
    refine v_iconst (v := 1) dX9_beside_43 (by decide) ?_
    refine v_isub dX9_beside_44 ?_
    exact v_iret hr dX9_beside_45 (psi (by first | (rw [hbv]; done) | (rw [hbv, if_pos (by omega)]; done) | (rw [hbv, if_neg (by omega)]; done)) rfl)
  · -- (cz % 4) eq 0
    refine v_iconst (v := (-1)) dX9_beside_38 (by decide) ?_
    refine v_goto (tgt := 45) dX9_beside_39 (by decide) ?_
    exact v_iret hr dX9_beside_45 (psi (by first | (rw [hbv]; done) | (rw [hbv, if_pos (by omega)]; done) | (rw [hbv, if_neg (by omega)]; done)) rfl)
set_option maxRecDepth 100000 in
set_option maxHeartbeats 400000 in
theorem c_bes2 {g : Gl} {I : Ty} {L : TL} {na nt ni m : Nat} {nl : Nat → Nat} (cz : Nat) (hcz : cz < 16) : Ct g yX9_beside cX9_beside 3 (some .int) 0 0 0 [.ref (g.1 + 65), .int (nI cz), .int (nI 2)] I L (RT na nt ni) (NT nl) (NB + m) (Ps (some (.int (besI cz 2))) (I) L (RT na nt ni) (NT nl) (NB + m)) := by
  refine ct_of (by decide +kernel) (Nat.le_of_ble_eq_true rfl) (fun F hnm hr => ?_)
  clear hnm
  show V g F cX9_beside RX9 3 0 0 [(0, .ref (g.1 + 65)), (1, .int (nI cz)), (2, .int 2)] [] I L (RT na nt ni) (NT nl) (NB + m) 0 0
  have hbv := (bes_val cz hcz).2.2.1
  refine v_iload_n dX9_beside_0 rfl 2 rfl ?_
  refine v_tabIn (off := 45) (tgt := 46) dX9_beside_1 (by decide) (by decide) (by decide) (by decide) ?_
  refine v_iload_n dX9_beside_46 rfl 1 rfl ?_
  refine v_iconst (v := 4) dX9_beside_47 (by decide) ?_
  refine v_irem dX9_beside_48 (by decide) ?_
  refine v_is (nx_rem rfl (d := 4) (by omega) (by decide) (by decide)) ?_
  refine v_iconst (v := 3) dX9_beside_49 (by decide) ?_
  refine v_icmp_neN (a := (cz % 4)) (b := 3) (tgt := 57) dX9_beside_50 (by decide) rfl rfl (by omega) (by omega) (fun h1 => ?_) (fun h1 => ?_)
  · -- (cz % 4) ne 3
    refine v_iload_n dX9_beside_57 rfl 1 rfl ?_
    refine v_iconst (v := 1) dX9_beside_58 (by decide) ?_
    refine v_iadd dX9_beside_59 ?_
    refine v_is (nx_add rfl rfl) ?_
    exact v_iret hr dX9_beside_60 (psi (by first | (rw [hbv]; done) | (rw [hbv, if_pos (by omega)]; done) | (rw [hbv, if_neg (by omega)]; done)) rfl)
  · -- (cz % 4) eq 3
    refine v_iconst (v := (-1)) dX9_beside_53 (by decide) ?_
    refine v_goto (tgt := 60) dX9_beside_54 (by decide) ?_
    exact v_iret hr dX9_beside_60 (psi (by first | (rw [hbv]; done) | (rw [hbv, if_pos (by omega)]; done) | (rw [hbv, if_neg (by omega)]; done)) rfl)
set_option maxRecDepth 100000 in
set_option maxHeartbeats 400000 in
theorem c_bes3 {g : Gl} {I : Ty} {L : TL} {na nt ni m : Nat} {nl : Nat → Nat} (cz : Nat) (hcz : cz < 16) : Ct g yX9_beside cX9_beside 3 (some .int) 0 0 0 [.ref (g.1 + 65), .int (nI cz), .int (nI 3)] I L (RT na nt ni) (NT nl) (NB + m) (Ps (some (.int (besI cz 3))) (I) L (RT na nt ni) (NT nl) (NB + m)) := by
  refine ct_of (by decide +kernel) (Nat.le_of_ble_eq_true rfl) (fun F hnm hr => ?_)
  clear hnm
  show V g F cX9_beside RX9 3 0 0 [(0, .ref (g.1 + 65)), (1, .int (nI cz)), (2, .int 3)] [] I L (RT na nt ni) (NT nl) (NB + m) 0 0
  have hbv := (bes_val cz hcz).2.2.2
  refine v_iload_n dX9_beside_0 rfl 2 rfl ?_
  refine v_tabOut (tgt := 61) dX9_beside_1 (by decide) (by decide) ?_
  refine v_iload_n dX9_beside_61 rfl 1 rfl ?_
  refine v_bipush (v := 11) dX9_beside_62 (by decide) ?_
  refine v_icmp_leN (a := cz) (b := 11) (tgt := 71) dX9_beside_64 (by decide) rfl rfl (by omega) (by omega) (fun h1 => ?_) (fun h1 => ?_)
  · -- cz le 11
    refine v_iload_n dX9_beside_71 rfl 1 rfl ?_
    refine v_iconst (v := 4) dX9_beside_72 (by decide) ?_
    refine v_iadd dX9_beside_73 ?_
    refine v_is (nx_add rfl rfl) ?_
    exact v_iret hr dX9_beside_74 (psi (by first | (rw [hbv]; done) | (rw [hbv, if_pos (by omega)]; done) | (rw [hbv, if_neg (by omega)]; done)) rfl)
  · -- cz gt 11
    refine v_iconst (v := (-1)) dX9_beside_67 (by decide) ?_
    refine v_goto (tgt := 74) dX9_beside_68 (by decide) ?_
    exact v_iret hr dX9_beside_74 (psi (by first | (rw [hbv]; done) | (rw [hbv, if_pos (by omega)]; done) | (rw [hbv, if_neg (by omega)]; done)) rfl)
theorem c_X9_beside {g : Gl} {I : Ty} {L : TL} {na nt ni m : Nat} {nl : Nat → Nat} (cz kz : Nat) (hcz : cz < 16) (hkz : kz < 4) : Ct g yX9_beside cX9_beside 3 (some .int) 0 0 0 [.ref (g.1 + 65), .int (nI cz), .int (nI kz)] I L (RT na nt ni) (NT nl) (NB + m) (Ps (some (.int (besI cz kz))) (I) L (RT na nt ni) (NT nl) (NB + m)) := by
  rcases (show kz = 0 ∨ kz = 1 ∨ kz = 2 ∨ kz = 3 by omega) with rfl | rfl | rfl | rfl
  · exact c_bes0 cz hcz
  · exact c_bes1 cz hcz
  · exact c_bes2 cz hcz
  · exact c_bes3 cz hcz
theorem c_leastN {g : Gl} {I : Ty} {L : TL} {na nt ni m : Nat} {nl : Nat → Nat} (x y : Nat) (hx : x < 2 ^ 31) (hy : y < 2 ^ 31) : Ct g yX9_least cX9_least 3 (some .int) 0 0 0 [.ref (g.1 + 65), .int (nI x), .int (nI y)] I L (RT na nt ni) (NT nl) (NB + m) (Ps (some (.int (nI (min x y)))) (I) L (RT na nt ni) (NT nl) (NB + m)) := by
  have h := c_X9_least (g := g) (I := I) (L := L) (na := na) (nt := nt) (ni := ni) (m := m) (nl := nl) (nI x) (nI y)
  have e : (if nI x < nI y then nI x else nI y) = nI (min x y) := by
    by_cases hc : x < y
    · rw [if_pos ((nI_ltI hx hy).mpr hc), Nat.min_eq_left (by omega)]
    · rw [if_neg (fun z => hc ((nI_ltI hx hy).mp z)), Nat.min_eq_right (by omega)]
  rw [e] at h
  exact h
set_option maxRecDepth 100000 in
set_option maxHeartbeats 400000 in
theorem c_X9_nearest {g : Gl} {I : Ty} {L : TL} {na nt ni m : Nat} {nl : Nat → Nat} (cz : Nat) (hcz : cz < 16) (Dq : Nat → Nat) (hDq : ∀ j, j < 16 → I 84 j = nI (Dq j)) (hD9 : ∀ j, j < 16 → Dq j ≤ 99) : Ct g yX9_nearest cX9_nearest 5 (some .int) 1 0 0 [.ref (g.1 + 65), .int (nI cz)] I L (RT na nt ni) (NT nl) (NB + m) (Ps (some (.int (nI (near Dq cz)))) (I) L (RT na nt ni) (NT nl) (NB + m)) := by
  refine ct_of (by decide +kernel) (Nat.le_of_ble_eq_true rfl) (fun F hnm hr => ?_)
  clear hnm
  show V g F cX9_nearest RX9 5 1 0 [(0, .ref (g.1 + 65)), (1, .int (nI cz))] [] I L (RT na nt ni) (NT nl) (NB + m) 0 0
  refine v_bipush (v := 99) dX9_nearest_0 (by decide) ?_
  refine v_istore_n (lv2 := [(2, .int 99), (0, .ref (g.1 + 65)), (1, .int (nI cz))]) dX9_nearest_2 rfl (by decide) rfl ?_
  refine v_iconst (v := 0) dX9_nearest_3 (by decide) ?_
  refine v_istore_n (lv2 := [(3, .int 0), (2, .int 99), (0, .ref (g.1 + 65)), (1, .int (nI cz))]) dX9_nearest_4 rfl (by decide) rfl ?_
  refine v_lv (lv2 := [(3, .int (nI 0)), (2, .int (nI (nearK Dq cz 0))), (0, .ref (g.1 + 65)), (1, .int (nI cz))]) (by rfl) ?_
  refine dloop (P := fun i => V g F cX9_nearest RX9 5 1 5 [(3, .int (nI i)), (2, .int (nI (nearK Dq cz i))), (0, .ref (g.1 + 65)), (1, .int (nI cz))] [] I L (RT na nt ni) (NT nl) (NB + m) 0 0) 4 ?_ ?_ 0 (Nat.zero_le _)
  · refine v_iload_n dX9_nearest_5 rfl 0 rfl ?_
    refine v_iconst (v := 4) dX9_nearest_6 (by decide) ?_
    refine v_icmp_geN (a := 4) (b := 4) (tgt := 44) dX9_nearest_7 (by decide) rfl rfl (by omega) (by omega) (fun h1 => ?_) (fun h => by exfalso; omega)
    refine v_iload_n dX9_nearest_44 rfl 1 rfl ?_
    exact v_iret hr dX9_nearest_45 (psi rfl rfl)
  · intro i hi ih
    have h99 := nearK_99 Dq cz i
    refine v_iload_n dX9_nearest_5 rfl 0 rfl ?_
    refine v_iconst (v := 4) dX9_nearest_6 (by decide) ?_
    refine v_icmp_geN (a := i) (b := 4) (tgt := 44) dX9_nearest_7 (by decide) rfl rfl (by omega) (by omega) (fun h => by exfalso; omega) (fun h2 => ?_)
    refine v_aload_n dX9_nearest_10 rfl 2 rfl ?_
    refine v_iload_n dX9_nearest_11 rfl 3 rfl ?_
    refine v_iload_n dX9_nearest_12 rfl 0 rfl ?_
    refine v_callVi (As := [.int (nI cz), .int (nI i)]) (rest := []) lk_X9_321 (c_X9_beside cz i hcz (by omega)) dX9_nearest_13 rfl (ltn rfl) rfl rfl (Nat.le_of_ble_eq_true rfl) (by decide) ?_
    refine v_istore (lv2 := [(4, .int (besI cz i)), (3, .int (nI i)), (2, .int (nI (nearK Dq cz i))), (0, .ref (g.1 + 65)), (1, .int (nI cz))]) dX9_nearest_16 (by decide) rfl ?_
    refine v_iload dX9_nearest_18 0 rfl ?_
    refine v_if_lt (tgt := 38) dX9_nearest_20 (by decide) (fun h4 => ?_) (fun h4 => ?_)
    · have h4b := (bes_neg cz hcz i (by omega)).mp h4
      refine v_inc (v := nI (i + 1)) (lv2 := [(3, .int (nI (i + 1))), (4, .int (besI cz i)), (2, .int (nI (nearK Dq cz i))), (0, .ref (g.1 + 65)), (1, .int (nI cz))]) dX9_nearest_38 1 rfl (nx_inc rfl) (by decide) rfl ?_
      refine v_goto (tgt := 5) dX9_nearest_41 (by decide) ?_
      refine v_sub (lv2 := [(3, .int (nI (i + 1))), (2, .int (nI (nearK Dq cz i))), (0, .ref (g.1 + 65)), (1, .int (nI cz))]) [0, 2, 3, 4] rfl ?_
      refine v_lv (lv2 := [(3, .int (nI (i + 1))), (2, .int (nI (nearK Dq cz (i + 1)))), (0, .ref (g.1 + 65)), (1, .int (nI cz))]) (by simp only [nearK, if_neg h4b]) ?_
      exact ih
    · have h4b : nb cz i < 16 := Classical.byContradiction fun z => h4 ((bes_neg cz hcz i (by omega)).mpr z)
      have h4e := bes_eq h4b
      have h4d := hD9 _ h4b
      refine v_aload_n dX9_nearest_23 rfl 3 rfl ?_
      refine v_iload_n dX9_nearest_24 rfl 2 rfl ?_
      refine v_aload_n dX9_nearest_25 rfl 3 rfl ?_
      refine v_get (v := .ref (g.1 + 84)) fa_X9_96 dX9_nearest_26 rfl (by decide) (ltn rfl) rfl ?_
      refine v_iload dX9_nearest_29 0 rfl ?_
      refine v_iaload (len := 16) (j := (nb cz i)) dX9_nearest_31 rfl (ltn rfl) rfl (by decide) h4e (by omega) ?_
      refine v_is (y := nI (Dq (nb cz i))) (hDq _ h4b) ?_
      refine v_iconst (v := 1) dX9_nearest_32 (by decide) ?_
      refine v_iadd dX9_nearest_33 ?_
      refine v_is (nx_add rfl rfl) ?_
      refine v_callVi (As := [.int (nI (nearK Dq cz i)), .int (nI ((Dq (nb cz i)) + 1))]) (rest := []) lk_X9_324 (c_leastN (nearK Dq cz i) ((Dq (nb cz i)) + 1) (by omega) (by omega)) dX9_nearest_34 rfl (ltn rfl) rfl rfl (Nat.le_of_ble_eq_true rfl) (by decide) ?_
      refine v_istore_n (lv2 := [(2, .int (nI (min (nearK Dq cz i) ((Dq (nb cz i)) + 1)))), (4, .int (besI cz i)), (3, .int (nI i)), (0, .ref (g.1 + 65)), (1, .int (nI cz))]) dX9_nearest_37 rfl (by decide) rfl ?_
      refine v_inc (v := nI (i + 1)) (lv2 := [(3, .int (nI (i + 1))), (2, .int (nI (min (nearK Dq cz i) ((Dq (nb cz i)) + 1)))), (4, .int (besI cz i)), (0, .ref (g.1 + 65)), (1, .int (nI cz))]) dX9_nearest_38 2 rfl (nx_inc rfl) (by decide) rfl ?_
      refine v_goto (tgt := 5) dX9_nearest_41 (by decide) ?_
      refine v_sub (lv2 := [(3, .int (nI (i + 1))), (2, .int (nI (min (nearK Dq cz i) ((Dq (nb cz i)) + 1)))), (0, .ref (g.1 + 65)), (1, .int (nI cz))]) [0, 1, 3, 4] rfl ?_
      refine v_lv (lv2 := [(3, .int (nI (i + 1))), (2, .int (nI (nearK Dq cz (i + 1)))), (0, .ref (g.1 + 65)), (1, .int (nI cz))]) (by simp only [nearK, if_pos h4b]) ?_
      exact ih
theorem ks_step {P : Nat → Prop} {i : Nat} (h : ∀ k, k < i → ¬ P k) (hi : ¬ P i) : ∀ k, k < i + 1 → ¬ P k := fun k hk => by
  by_cases e : k = i
  · subst e; exact hi
  · exact h k (by omega)
theorem stp_at {D : Nat → Nat} {c i : Nat} {v : Int32} (hi : i < 4) (h : nb c i < 16 ∧ D (nb c i) + 1 = near D c) (hinv : ∀ k, k < i → ¬ (nb c k < 16 ∧ D (nb c k) + 1 = near D c)) (hv : v = nI (nb c i)) : v = stp D c := by
  subst hv
  unfold stp
  rcases (show i = 0 ∨ i = 1 ∨ i = 2 ∨ i = 3 by omega) with rfl | rfl | rfl | rfl
  · rw [ifc_t h]
  · rw [ifc_f (hinv 0 (by decide)), ifc_t h]
  · rw [ifc_f (hinv 0 (by decide)), ifc_f (hinv 1 (by decide)), ifc_t h]
  · rw [ifc_f (hinv 0 (by decide)), ifc_f (hinv 1 (by decide)), ifc_f (hinv 2 (by decide)), ifc_t h]
set_option maxRecDepth 100000 in
set_option maxHeartbeats 400000 in
theorem c_X9_stepFrom {g : Gl} {I : Ty} {L : TL} {na nt ni m : Nat} {nl : Nat → Nat} (cz : Nat) (hcz : cz < 16) (Dq : Nat → Nat) (hDq : ∀ j, j < 16 → I 84 j = nI (Dq j)) (hD9 : ∀ j, j < 16 → Dq j ≤ 99) : Ct g yX9_stepFrom cX9_stepFrom 3 (some .int) 2 0 0 [.ref (g.1 + 65), .int (nI cz)] I L (RT na nt ni) (NT nl) (NB + m) (Ps (some (.int (stp Dq cz))) (I) L (RT na nt ni) (NT nl) (NB + m)) := by
  refine ct_of (by decide +kernel) (Nat.le_of_ble_eq_true rfl) (fun F hnm hr => ?_)
  clear hnm
  show V g F cX9_stepFrom RX9 3 2 0 [(0, .ref (g.1 + 65)), (1, .int (nI cz))] [] I L (RT na nt ni) (NT nl) (NB + m) 0 0
  refine v_iconst (v := 0) dX9_stepFrom_0 (by decide) ?_
  refine v_istore_n (lv2 := [(2, .int 0), (0, .ref (g.1 + 65)), (1, .int (nI cz))]) dX9_stepFrom_1 rfl (by decide) rfl ?_
  refine v_lv (lv2 := [(2, .int (nI 0)), (0, .ref (g.1 + 65)), (1, .int (nI cz))]) (by rfl) ?_
  refine dloop (P := fun i => (∀ k, k < i → ¬ (nb cz k < 16 ∧ Dq (nb cz k) + 1 = near Dq cz)) → V g F cX9_stepFrom RX9 3 2 2 [(2, .int (nI i)), (0, .ref (g.1 + 65)), (1, .int (nI cz))] [] I L (RT na nt ni) (NT nl) (NB + m) 0 0) 4 ?_ ?_ 0 (Nat.zero_le _) (fun k h => absurd h (Nat.not_lt_zero k))
  · intro hinv
    refine v_iload_n dX9_stepFrom_2 rfl 0 rfl ?_
    refine v_iconst (v := 4) dX9_stepFrom_3 (by decide) ?_
    refine v_icmp_geN (a := 4) (b := 4) (tgt := 50) dX9_stepFrom_4 (by decide) rfl rfl (by omega) (by omega) (fun h1 => ?_) (fun h => by exfalso; omega)
    refine v_bipush (v := (-5)) dX9_stepFrom_50 (by decide) ?_
    exact v_iret hr dX9_stepFrom_52 (psi (by unfold stp; rw [ifc_f (hinv 0 (by decide)), ifc_f (hinv 1 (by decide)), ifc_f (hinv 2 (by decide)), ifc_f (hinv 3 (by decide))]) rfl)
  · intro i hi ih
    intro hinv
    refine v_iload_n dX9_stepFrom_2 rfl 0 rfl ?_
    refine v_iconst (v := 4) dX9_stepFrom_3 (by decide) ?_
    refine v_icmp_geN (a := i) (b := 4) (tgt := 50) dX9_stepFrom_4 (by decide) rfl rfl (by omega) (by omega) (fun h => by exfalso; omega) (fun h2 => ?_)
    refine v_aload_n dX9_stepFrom_7 rfl 1 rfl ?_
    refine v_iload_n dX9_stepFrom_8 rfl 2 rfl ?_
    refine v_iload_n dX9_stepFrom_9 rfl 0 rfl ?_
    refine v_callVi (As := [.int (nI cz), .int (nI i)]) (rest := []) lk_X9_321 (c_X9_beside cz i hcz (by omega)) dX9_stepFrom_10 rfl (ltn rfl) rfl rfl (Nat.le_of_ble_eq_true rfl) (by decide) ?_
    refine v_if_lt (tgt := 44) dX9_stepFrom_13 (by decide) (fun h4 => ?_) (fun h4 => ?_)
    · have h4b := (bes_neg cz hcz i (by omega)).mp h4
      refine v_inc (v := nI (i + 1)) (lv2 := [(2, .int (nI (i + 1))), (0, .ref (g.1 + 65)), (1, .int (nI cz))]) dX9_stepFrom_44 0 rfl (nx_inc rfl) (by decide) rfl ?_
      refine v_goto (tgt := 2) dX9_stepFrom_47 (by decide) ?_
      exact ih (ks_step hinv (fun z => h4b z.1))
    · have h4b : nb cz i < 16 := Classical.byContradiction fun z => h4 ((bes_neg cz hcz i (by omega)).mpr z)
      have h4e := bes_eq h4b
      have h4d := hD9 _ h4b
      refine v_aload_n dX9_stepFrom_16 rfl 1 rfl ?_
      refine v_get (v := .ref (g.1 + 84)) fa_X9_96 dX9_stepFrom_17 rfl (by decide) (ltn rfl) rfl ?_
      refine v_aload_n dX9_stepFrom_20 rfl 1 rfl ?_
      refine v_iload_n dX9_stepFrom_21 rfl 2 rfl ?_
      refine v_iload_n dX9_stepFrom_22 rfl 0 rfl ?_
      refine v_callVi (As := [.int (nI cz), .int (nI i)]) (rest := [.ref (g.1 + 84)]) lk_X9_321 (c_X9_beside cz i hcz (by omega)) dX9_stepFrom_23 rfl (ltn rfl) rfl rfl (Nat.le_of_ble_eq_true rfl) (by decide) ?_
      refine v_iaload (len := 16) (j := (nb cz i)) dX9_stepFrom_26 rfl (ltn rfl) rfl (by decide) h4e (by omega) ?_
      refine v_is (y := nI (Dq (nb cz i))) (hDq _ h4b) ?_
      refine v_iconst (v := 1) dX9_stepFrom_27 (by decide) ?_
      refine v_iadd dX9_stepFrom_28 ?_
      refine v_is (nx_add rfl rfl) ?_
      refine v_aload_n dX9_stepFrom_29 rfl 1 rfl ?_
      refine v_iload_n dX9_stepFrom_30 rfl 2 rfl ?_
      refine v_callVi (As := [.int (nI cz)]) (rest := [.int (nI ((Dq (nb cz i)) + 1))]) lk_X9_327 (c_X9_nearest cz hcz Dq hDq hD9) dX9_stepFrom_31 rfl (ltn rfl) rfl rfl (Nat.le_of_ble_eq_true rfl) (by decide) ?_
      have n95 : near Dq cz ≤ 99 := nearK_99 Dq cz 4
      refine v_icmp_neN (a := ((Dq (nb cz i)) + 1)) (b := (near Dq cz)) (tgt := 44) dX9_stepFrom_34 (by decide) rfl rfl (by omega) (by omega) (fun h6 => ?_) (fun h6 => ?_)
      · -- ((Dq (nb cz i)) + 1) ne (near Dq cz)
        refine v_inc (v := nI (i + 1)) (lv2 := [(2, .int (nI (i + 1))), (0, .ref (g.1 + 65)), (1, .int (nI cz))]) dX9_stepFrom_44 0 rfl (nx_inc rfl) (by decide) rfl ?_
        refine v_goto (tgt := 2) dX9_stepFrom_47 (by decide) ?_
        exact ih (ks_step hinv (fun z => h6 z.2))
      · -- ((Dq (nb cz i)) + 1) eq (near Dq cz)
        refine v_aload_n dX9_stepFrom_37 rfl 1 rfl ?_
        refine v_iload_n dX9_stepFrom_38 rfl 2 rfl ?_
        refine v_iload_n dX9_stepFrom_39 rfl 0 rfl ?_
        refine v_callVi (As := [.int (nI cz), .int (nI i)]) (rest := []) lk_X9_321 (c_X9_beside cz i hcz (by omega)) dX9_stepFrom_40 rfl (ltn rfl) rfl rfl (Nat.le_of_ble_eq_true rfl) (by decide) ?_
        exact v_iret hr dX9_stepFrom_43 (psi (stp_at hi ⟨h4b, h6⟩ hinv (h4e)) rfl)
theorem jD_0 {st : Int32} {gl : Nat} (hg : gl < 16) (h : ¬ hb st gl) : jD st gl (va_up (fun _ => 99) gl 0) := by
  refine ⟨fun j _ => ?_, fun _ => up_at _ _ _, fun c _ hd => ?_⟩
  · by_cases e : j = gl
    · subst e; rw [up_at]; decide
    · rw [up_off _ _ e]; exact Nat.le_refl _
  · by_cases e : c = gl
    · subst e; rw [up_at]; exact ⟨rfl, h⟩
    · rw [up_off _ _ e] at hd; exact absurd hd (Nat.lt_irrefl _)
theorem jD_1 {st : Int32} {gl : Nat} (h : hb st gl) : jD st gl (fun _ => 99) := ⟨fun _ _ => Nat.le_refl _, fun z => absurd h z, fun _ _ hd => absurd hd (Nat.lt_irrefl _)⟩
theorem rows_up {D : Nat → Nat} {h : Nat → Int32} (i v : Nat) {x : Int32} (hr : ∀ j, j < 16 → h j = nI (D j)) (hx : x = nI v) : ∀ j, j < 16 → va_up h i x j = nI (va_up D i v j) := fun j hj => by
  by_cases e : j = i
  · subst e; rw [up_at, up_at, hx]
  · rw [up_off _ _ e, up_off _ _ e]; exact hr j hj
theorem mu_less {D : Nat → Nat} {i v M : Nat} (hi : i < 16) (h : v < D i) (hM : muD D 16 ≤ M) : muD (va_up D i v) 16 < M := by
  have := (muD_up D i v 16).2 hi
  omega
theorem fx_step {st : Int32} {D : Nat → Nat} {i : Nat} (h : fixD st D i) (hi : ¬ hb st i → D i ≤ near D i) : fixD st D (i + 1) := fun c hc hs => by
  by_cases e : c = i
  · subst e; exact hi hs
  · exact h c (by omega) hs
set_option maxRecDepth 100000 in
set_option maxHeartbeats 2000000 in
theorem c_X9_layDistance {g : Gl} {I : Ty} {L : TL} {na nt ni m : Nat} {nl : Nat → Nat} (st : Int32) (gl : Nat) (hgl : gl < 16) : Ct g yX9_layDistance cX9_layDistance 5 none 2 0 0 [.ref (g.1 + 65), .int st, .int (nI gl)] I L (RT na nt ni) (NT nl) (NB + m) (fun v I_ L_ R_ N_ n_ => v = none ∧ (∃ hq : Nat → Int32, (∀ j, j < 16 → hq j = nI (dst st gl j)) ∧ I_ = scr I (I 83) hq) ∧ L_ = L ∧ R_ = RT na nt ni ∧ N_ = NT nl ∧ n_ = NB + m) := by
  refine ct_of (by decide +kernel) (Nat.le_of_ble_eq_true rfl) (fun F hnm hr => ?_)
  clear hnm
  show V g F cX9_layDistance RX9 5 2 0 [(0, .ref (g.1 + 65)), (1, .int st), (2, .int (nI gl))] [] I L (RT na nt ni) (NT nl) (NB + m) 0 0
  have key : ∀ M : Nat, ∀ (Dq : Nat → Nat) (hq : Nat → Int32) (fl : Int32), muD Dq 16 * 2 + tn fl < M → jD st gl Dq → (∀ j, j < 16 → hq j = nI (Dq j)) → (fl = 1 ∨ (fl = 0 ∧ fixD st Dq 16)) → V g F cX9_layDistance RX9 5 2 40 [(3, .int fl), (0, .ref (g.1 + 65)), (1, .int st), (2, .int (nI gl))] [] (scr I (I 83) hq) L (RT na nt ni) (NT nl) (NB + m) 0 0 := by
    intro M
    induction M with
    | zero => intro Dq hq fl h; exact absurd h (Nat.not_lt_zero _)
    | succ M ihM =>
      intro Dq hq fl hM hJ hrow hfl
      rcases hfl with rfl | ⟨rfl, hfix⟩
      · refine v_iload_n dX9_layDistance_40 rfl 0 rfl ?_
        refine v_if_eq (tgt := 109) dX9_layDistance_41 (by decide) (fun h1 => by first | exact absurd h1 (by decide) | exact absurd (by decide) h1) (fun _ => ?_)
        refine v_iconst (v := 0) dX9_layDistance_44 (by decide) ?_
        refine v_istore_n (lv2 := [(3, .int 0), (0, .ref (g.1 + 65)), (1, .int st), (2, .int (nI gl))]) dX9_layDistance_45 rfl (by decide) rfl ?_
        refine v_iconst (v := 0) dX9_layDistance_46 (by decide) ?_
        refine v_istore (lv2 := [(4, .int 0), (3, .int 0), (0, .ref (g.1 + 65)), (1, .int st), (2, .int (nI gl))]) dX9_layDistance_47 (by decide) rfl ?_
        refine dloop (P := fun i => ∀ (Dr : Nat → Nat) (hr2 : Nat → Int32) (fr : Int32), (jD st gl Dr ∧ (∀ j, j < 16 → hr2 j = nI (Dr j)) ∧ ((fr = 0 ∧ muD Dr 16 = muD Dq 16 ∧ fixD st Dr i) ∨ (fr = 1 ∧ muD Dr 16 < muD Dq 16))) → V g F cX9_layDistance RX9 5 2 49 [(4, .int (nI i)), (3, .int fr), (0, .ref (g.1 + 65)), (1, .int st), (2, .int (nI gl))] [] (scr I (I 83) hr2) L (RT na nt ni) (NT nl) (NB + m) 0 0) 16 ?_ ?_ 0 (Nat.zero_le _) Dq hq 0 ⟨hJ, hrow, Or.inl ⟨rfl, rfl, fun c h => absurd h (Nat.not_lt_zero c)⟩⟩
        · intro Dr hr2 fr ⟨hJr, hrr, hcs⟩
          refine v_iload dX9_layDistance_49 0 rfl ?_
          refine v_bipush (v := 16) dX9_layDistance_51 (by decide) ?_
          refine v_icmp_geN (a := 16) (b := 16) (tgt := 106) dX9_layDistance_53 (by decide) rfl rfl (by omega) (by omega) (fun h2 => ?_) (fun h => by exfalso; omega)
          refine v_goto (tgt := 40) dX9_layDistance_106 (by decide) ?_
          refine v_sub (lv2 := [(3, .int fr), (0, .ref (g.1 + 65)), (1, .int st), (2, .int (nI gl))]) [1, 2, 3, 4] rfl ?_
          rcases hcs with ⟨rfl, hm, hfx⟩ | ⟨rfl, hm⟩
          · exact ihM Dr hr2 0 (by have e1 : tn (0 : Int32) = 0 := rfl; have e2 : tn (1 : Int32) = 1 := rfl; omega) hJr hrr (Or.inr ⟨rfl, hfx⟩)
          · exact ihM Dr hr2 1 (by have e2 : tn (1 : Int32) = 1 := rfl; omega) hJr hrr (Or.inl rfl)
        · intro i hi ih Dr hr2 fr ⟨hJr, hrr, hcs⟩
          have hD9 : ∀ j, j < 16 → Dr j ≤ 99 := hJr.1
          have hDi := hD9 i hi
          refine v_iload dX9_layDistance_49 0 rfl ?_
          refine v_bipush (v := 16) dX9_layDistance_51 (by decide) ?_
          refine v_icmp_geN (a := i) (b := 16) (tgt := 106) dX9_layDistance_53 (by decide) rfl rfl (by omega) (by omega) (fun h => by exfalso; omega) (fun h3 => ?_)
          refine v_aload_n dX9_layDistance_56 rfl 2 rfl ?_
          refine v_iload_n dX9_layDistance_57 rfl 3 rfl ?_
          refine v_iload dX9_layDistance_58 0 rfl ?_
          refine v_callVi (As := [.int st, .int (nI i)]) (rest := []) lk_X9_233 (c_hasN st i) dX9_layDistance_60 rfl (ltn rfl) rfl rfl (Nat.le_of_ble_eq_true rfl) (by decide) ?_
          refine v_ifb_ne (tgt := 100) dX9_layDistance_63 (by decide) (fun h4 => ?_) (fun h4 => ?_)
          · -- hb st i
            refine v_inc (v := nI (i + 1)) (lv2 := [(4, .int (nI (i + 1))), (3, .int fr), (0, .ref (g.1 + 65)), (1, .int st), (2, .int (nI gl))]) dX9_layDistance_100 0 rfl (nx_inc rfl) (by decide) rfl ?_
            refine v_goto (tgt := 49) dX9_layDistance_103 (by decide) ?_
            exact ih Dr hr2 fr ⟨hJr, hrr, hcs.elim (fun z => Or.inl ⟨z.1, z.2.1, fx_step z.2.2 (fun h => absurd h4 h)⟩) Or.inr⟩
          · -- not hb st i
            refine v_aload_n dX9_layDistance_66 rfl 2 rfl ?_
            refine v_iload dX9_layDistance_67 0 rfl ?_
            refine v_callVi (As := [.int (nI i)]) (rest := []) lk_X9_327 (c_X9_nearest (I := (scr I (I 83) hr2)) i (by omega) Dr hrr hD9) dX9_layDistance_69 rfl (ltn rfl) rfl rfl (Nat.le_of_ble_eq_true rfl) (by decide) ?_
            have n95 : near Dr i ≤ 99 := nearK_99 Dr i 4
            refine v_aload_n dX9_layDistance_72 rfl 2 rfl ?_
            refine v_get (v := .ref (g.1 + 84)) fa_X9_96 dX9_layDistance_73 rfl (by decide) (ltn rfl) rfl ?_
            refine v_iload dX9_layDistance_76 0 rfl ?_
            refine v_iaload (len := 16) (j := i) dX9_layDistance_78 rfl (ltn rfl) rfl (by decide) rfl (by omega) ?_
            refine v_is (y := nI (Dr i)) (hrr i hi) ?_
            refine v_icmp_ltN (a := (near Dr i)) (b := (Dr i)) (tgt := 85) dX9_layDistance_79 (by decide) rfl rfl (by omega) (by omega) (fun h6 => ?_) (fun h6 => ?_)
            · -- (near Dr i) lt (Dr i)
              refine v_aload_n dX9_layDistance_85 rfl 2 rfl ?_
              refine v_get (v := .ref (g.1 + 84)) fa_X9_96 dX9_layDistance_86 rfl (by decide) (ltn rfl) rfl ?_
              refine v_iload dX9_layDistance_89 0 rfl ?_
              refine v_aload_n dX9_layDistance_91 rfl 2 rfl ?_
              refine v_iload dX9_layDistance_92 0 rfl ?_
              refine v_callVi (As := [.int (nI i)]) (rest := [.int (nI i), .ref (g.1 + 84)]) lk_X9_327 (c_X9_nearest (I := (scr I (I 83) hr2)) i (by omega) Dr hrr hD9) dX9_layDistance_94 rfl (ltn rfl) rfl rfl (Nat.le_of_ble_eq_true rfl) (by decide) ?_
              have n97 : near Dr i ≤ 99 := nearK_99 Dr i 4
              refine v_iastore (len := 16) (j := i) dX9_layDistance_97 rfl (ltn rfl) rfl (by decide) rfl (by omega) ?_
              refine v_iconst (v := 1) dX9_layDistance_98 (by decide) ?_
              refine v_istore_n (lv2 := [(3, .int 1), (4, .int (nI i)), (0, .ref (g.1 + 65)), (1, .int st), (2, .int (nI gl))]) dX9_layDistance_99 rfl (by decide) rfl ?_
              refine v_inc (v := nI (i + 1)) (lv2 := [(4, .int (nI (i + 1))), (3, .int 1), (0, .ref (g.1 + 65)), (1, .int st), (2, .int (nI gl))]) dX9_layDistance_100 1 rfl (nx_inc rfl) (by decide) rfl ?_
              refine v_goto (tgt := 49) dX9_layDistance_103 (by decide) ?_
              refine v_I (I2 := (scr I (I 83) (va_up hr2 i (nI (near Dr i))))) (scr_84 _ _ _ _) ?_
              exact ih (va_up Dr i (near Dr i)) _ 1 ⟨jD_step hJr hi h4 h6, rows_up i (near Dr i) hrr rfl, Or.inr ⟨rfl, mu_less hi h6 (by rcases hcs with ⟨_, hm, _⟩ | ⟨_, hm⟩ <;> omega)⟩⟩
            · -- (near Dr i) ge (Dr i)
              refine v_goto (tgt := 100) dX9_layDistance_82 (by decide) ?_
              refine v_inc (v := nI (i + 1)) (lv2 := [(4, .int (nI (i + 1))), (3, .int fr), (0, .ref (g.1 + 65)), (1, .int st), (2, .int (nI gl))]) dX9_layDistance_100 0 rfl (nx_inc rfl) (by decide) rfl ?_
              refine v_goto (tgt := 49) dX9_layDistance_103 (by decide) ?_
              exact ih Dr hr2 fr ⟨hJr, hrr, hcs.elim (fun z => Or.inl ⟨z.1, z.2.1, fx_step z.2.2 (fun _ => h6)⟩) Or.inr⟩
      · refine v_iload_n dX9_layDistance_40 rfl 0 rfl ?_
        refine v_if_eq (tgt := 109) dX9_layDistance_41 (by decide) (fun _ => ?_) (fun h8 => by first | exact absurd h8 (by decide) | exact absurd (by decide) h8)
        exact v_vret hr dX9_layDistance_109 (⟨rfl, ⟨hq, fun j hj => (hrow j hj).trans (congrArg nI (isD_eq (jD_fix hJ hfix) (dst_is st gl) hj)), rfl⟩, rfl, rfl, rfl, rfl⟩)
  refine v_iconst (v := 0) dX9_layDistance_0 (by decide) ?_
  refine v_istore_n (lv2 := [(3, .int 0), (0, .ref (g.1 + 65)), (1, .int st), (2, .int (nI gl))]) dX9_layDistance_1 rfl (by decide) rfl ?_
  refine v_lv (lv2 := [(3, .int (nI 0)), (0, .ref (g.1 + 65)), (1, .int st), (2, .int (nI gl))]) (by rfl) ?_
  refine v_I (I2 := (scr I (I 83) (I 84))) (by exact scr_self I) ?_
  refine dloop (P := fun i => ∀ (hq : Nat → Int32), (∀ j, j < i → hq j = nI 99) → V g F cX9_layDistance RX9 5 2 2 [(3, .int (nI i)), (0, .ref (g.1 + 65)), (1, .int st), (2, .int (nI gl))] [] (scr I (I 83) hq) L (RT na nt ni) (NT nl) (NB + m) 0 0) 16 ?_ ?_ 0 (Nat.zero_le _) (I 84) (fun j h => absurd h (Nat.not_lt_zero j))
  · intro hq
    intro hinv
    refine v_iload_n dX9_layDistance_2 rfl 0 rfl ?_
    refine v_bipush (v := 16) dX9_layDistance_3 (by decide) ?_
    refine v_icmp_geN (a := 16) (b := 16) (tgt := 22) dX9_layDistance_5 (by decide) rfl rfl (by omega) (by omega) (fun h9 => ?_) (fun h => by exfalso; omega)
    refine v_aload_n dX9_layDistance_22 rfl 1 rfl ?_
    refine v_iload_n dX9_layDistance_23 rfl 2 rfl ?_
    refine v_iload_n dX9_layDistance_24 rfl 3 rfl ?_
    refine v_callVi (As := [.int st, .int (nI gl)]) (rest := []) lk_X9_233 (c_hasN st gl) dX9_layDistance_25 rfl (ltn rfl) rfl rfl (Nat.le_of_ble_eq_true rfl) (by decide) ?_
    refine v_ifb_ne (tgt := 38) dX9_layDistance_28 (by decide) (fun h10 => ?_) (fun h10 => ?_)
    · -- hb st gl
      refine v_iconst (v := 1) dX9_layDistance_38 (by decide) ?_
      refine v_istore_n (lv2 := [(3, .int 1), (0, .ref (g.1 + 65)), (1, .int st), (2, .int (nI gl))]) dX9_layDistance_39 rfl (by decide) rfl ?_
      exact key _ (fun _ => 99) hq 1 (Nat.lt_succ_self _) (jD_1 h10) (hinv) (Or.inl rfl)
    · -- not hb st gl
      refine v_aload_n dX9_layDistance_31 rfl 1 rfl ?_
      refine v_get (v := .ref (g.1 + 84)) fa_X9_96 dX9_layDistance_32 rfl (by decide) (ltn rfl) rfl ?_
      refine v_iload_n dX9_layDistance_35 rfl 3 rfl ?_
      refine v_iconst (v := 0) dX9_layDistance_36 (by decide) ?_
      refine v_iastore (len := 16) (j := gl) dX9_layDistance_37 rfl (ltn rfl) rfl (by decide) rfl (by omega) ?_
      refine v_iconst (v := 1) dX9_layDistance_38 (by decide) ?_
      refine v_istore_n (lv2 := [(3, .int 1), (0, .ref (g.1 + 65)), (1, .int st), (2, .int (nI gl))]) dX9_layDistance_39 rfl (by decide) rfl ?_
      refine v_I (I2 := (scr I (I 83) (va_up hq gl 0))) (scr_84 _ _ _ _) ?_
      exact key _ (va_up (fun _ => 99) gl 0) (va_up hq gl 0) 1 (Nat.lt_succ_self _) (jD_0 hgl h10) (rows_up gl 0 hinv rfl) (Or.inl rfl)
  · intro i hi ih
    intro hq
    intro hinv
    refine v_iload_n dX9_layDistance_2 rfl 0 rfl ?_
    refine v_bipush (v := 16) dX9_layDistance_3 (by decide) ?_
    refine v_icmp_geN (a := i) (b := 16) (tgt := 22) dX9_layDistance_5 (by decide) rfl rfl (by omega) (by omega) (fun h => by exfalso; omega) (fun h11 => ?_)
    refine v_aload_n dX9_layDistance_8 rfl 1 rfl ?_
    refine v_get (v := .ref (g.1 + 84)) fa_X9_96 dX9_layDistance_9 rfl (by decide) (ltn rfl) rfl ?_
    refine v_iload_n dX9_layDistance_12 rfl 0 rfl ?_
    refine v_bipush (v := 99) dX9_layDistance_13 (by decide) ?_
    refine v_iastore (len := 16) (j := i) dX9_layDistance_15 rfl (ltn rfl) rfl (by decide) rfl (by omega) ?_
    refine v_inc (v := nI (i + 1)) (lv2 := [(3, .int (nI (i + 1))), (0, .ref (g.1 + 65)), (1, .int st), (2, .int (nI gl))]) dX9_layDistance_16 0 rfl (nx_inc rfl) (by decide) rfl ?_
    refine v_goto (tgt := 2) dX9_layDistance_19 (by decide) ?_
    refine v_I (I2 := (scr I (I 83) (va_up hq i 99))) (by exact scr_84 _ _ _ _) ?_
    exact ih _ (fun j hj => by by_cases e : j = i; (subst e; exact up_at _ _ _); (exact (up_off _ _ e).trans (hinv j (by omega))))

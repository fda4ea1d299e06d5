/-! the world as both are made -/
def KI : Ty := kI65 (va_up (kI0 (va_up (fun _ => Zi) 0 Zi)) 65 Zi)
def KL : TL := kL65 (kL0 (fun _ => Zl))
def KR : TR := kR65 (va_up (kR0 (va_up (fun _ => Zr) 0 Zr)) 65 Zr)
def KN : TN := kN65 (kN0 (fun _ => 0))
def enE (g : Gl) (k : Nat) : Prop := ent g (KI k) (KL k) (KR k) (KN k) (kd k) = ent g (KI k) (KL k) (RT 0 0 0 k) (NT (fun _ => 0) k) (kd k)
theorem lt_x {P : Nat → Prop} {n : Nat} (h : ∀ k, k < n → P k) (hn : P n) : ∀ k, k < n + 1 → P k := fun k hk => by
  by_cases e : k = n
  · subst e; exact hn
  · exact h k (by omega)
theorem v_ent {g : Gl} {F : Fx} {cc : ByteArray} {own : String} {nL d pc : Nat} {lv : List (Nat × Value)} {st : List Value} {I I2 : Ty} {L L2 : TL} {R R2 : TR} {N N2 : TN} {n kr sr : Nat} (hw : ∀ k, k < n → ent g (I k) (L k) (R k) (N k) (kd k) = ent g (I2 k) (L2 k) (R2 k) (N2 k) (kd k)) (k : V g F cc own nL d pc lv st I2 L2 R2 N2 n kr sr) : V g F cc own nL d pc lv st I L R N n kr sr :=
  fun hF H locs ls kc ks h1 h2 hH hL hlv => k hF H locs ls kc ks h1 h2 ⟨hH.1, hH.2.1, fun j hj => by rw [← hw j hj]; exact hH.2.2 j hj⟩ hL hlv
theorem KR_20 : KR 20 = RT 0 0 0 20 := by
  have e : KR 20 = va_up (va_up (va_up (va_up (va_up (va_up Zr 0 (some 53)) 1 (some 55)) 2 (some 57)) 3 (some 59)) 4 (some 61)) 5 (some 63) := rfl
  rw [e]
  funext j
  show _ = if j < 6 then some (53 + 2 * j) else none
  have h : j = 0 ∨ j = 1 ∨ j = 2 ∨ j = 3 ∨ j = 4 ∨ j = 5 ∨ 6 ≤ j := by omega
  rcases h with h | h | h | h | h | h | h
  · subst h; rfl
  · subst h; rfl
  · subst h; rfl
  · subst h; rfl
  · subst h; rfl
  · subst h; rfl
  · rw [if_neg (by omega), up_off _ _ (by omega), up_off _ _ (by omega), up_off _ _ (by omega), up_off _ _ (by omega), up_off _ _ (by omega), up_off _ _ (by omega)]; rfl
set_option maxRecDepth 100000 in
theorem en_0 (g : Gl) : enE g 0 := rfl
set_option maxRecDepth 100000 in
theorem en_1 (g : Gl) : enE g 1 := rfl
set_option maxRecDepth 100000 in
theorem en_2 (g : Gl) : enE g 2 := rfl
set_option maxRecDepth 100000 in
theorem en_3 (g : Gl) : enE g 3 := rfl
set_option maxRecDepth 100000 in
theorem en_4 (g : Gl) : enE g 4 := rfl
set_option maxRecDepth 100000 in
theorem en_5 (g : Gl) : enE g 5 := rfl
set_option maxRecDepth 100000 in
theorem en_6 (g : Gl) : enE g 6 := rfl
set_option maxRecDepth 100000 in
theorem en_7 (g : Gl) : enE g 7 := rfl
set_option maxRecDepth 100000 in
theorem en_8 (g : Gl) : enE g 8 := rfl
set_option maxRecDepth 100000 in
theorem en_9 (g : Gl) : enE g 9 := rfl
set_option maxRecDepth 100000 in
theorem en_10 (g : Gl) : enE g 10 := rfl
set_option maxRecDepth 100000 in
theorem en_11 (g : Gl) : enE g 11 := rfl
set_option maxRecDepth 100000 in
theorem en_12 (g : Gl) : enE g 12 := rfl
set_option maxRecDepth 100000 in
theorem en_13 (g : Gl) : enE g 13 := rfl
set_option maxRecDepth 100000 in
theorem en_14 (g : Gl) : enE g 14 := rfl
set_option maxRecDepth 100000 in
theorem en_15 (g : Gl) : enE g 15 := rfl
set_option maxRecDepth 100000 in
theorem en_16 (g : Gl) : enE g 16 := rfl
set_option maxRecDepth 100000 in
theorem en_17 (g : Gl) : enE g 17 := rfl
set_option maxRecDepth 100000 in
theorem en_18 (g : Gl) : enE g 18 := rfl
set_option maxRecDepth 100000 in
theorem en_19 (g : Gl) : enE g 19 := rfl
theorem en_20 (g : Gl) : enE g 20 := by
  unfold enE
  rw [KR_20]
  rfl
set_option maxRecDepth 100000 in
theorem en_21 (g : Gl) : enE g 21 := rfl
set_option maxRecDepth 100000 in
theorem en_22 (g : Gl) : enE g 22 := rfl
set_option maxRecDepth 100000 in
theorem en_23 (g : Gl) : enE g 23 := rfl
set_option maxRecDepth 100000 in
theorem en_24 (g : Gl) : enE g 24 := rfl
set_option maxRecDepth 100000 in
theorem en_25 (g : Gl) : enE g 25 := rfl
set_option maxRecDepth 100000 in
theorem en_26 (g : Gl) : enE g 26 := rfl
set_option maxRecDepth 100000 in
theorem en_27 (g : Gl) : enE g 27 := rfl
set_option maxRecDepth 100000 in
theorem en_28 (g : Gl) : enE g 28 := rfl
set_option maxRecDepth 100000 in
theorem en_29 (g : Gl) : enE g 29 := rfl
set_option maxRecDepth 100000 in
theorem en_30 (g : Gl) : enE g 30 := rfl
set_option maxRecDepth 100000 in
theorem en_31 (g : Gl) : enE g 31 := rfl
set_option maxRecDepth 100000 in
theorem en_32 (g : Gl) : enE g 32 := rfl
set_option maxRecDepth 100000 in
theorem en_33 (g : Gl) : enE g 33 := rfl
set_option maxRecDepth 100000 in
theorem en_34 (g : Gl) : enE g 34 := rfl
set_option maxRecDepth 100000 in
theorem en_35 (g : Gl) : enE g 35 := rfl
set_option maxRecDepth 100000 in
theorem en_36 (g : Gl) : enE g 36 := rfl
set_option maxRecDepth 100000 in
theorem en_37 (g : Gl) : enE g 37 := rfl
set_option maxRecDepth 100000 in
theorem en_38 (g : Gl) : enE g 38 := rfl
set_option maxRecDepth 100000 in
theorem en_39 (g : Gl) : enE g 39 := rfl
set_option maxRecDepth 100000 in
theorem en_40 (g : Gl) : enE g 40 := rfl
set_option maxRecDepth 100000 in
theorem en_41 (g : Gl) : enE g 41 := rfl
set_option maxRecDepth 100000 in
theorem en_42 (g : Gl) : enE g 42 := rfl
set_option maxRecDepth 100000 in
theorem en_43 (g : Gl) : enE g 43 := rfl
set_option maxRecDepth 100000 in
theorem en_44 (g : Gl) : enE g 44 := rfl
set_option maxRecDepth 100000 in
theorem en_45 (g : Gl) : enE g 45 := rfl
set_option maxRecDepth 100000 in
theorem en_46 (g : Gl) : enE g 46 := rfl
set_option maxRecDepth 100000 in
theorem en_47 (g : Gl) : enE g 47 := rfl
set_option maxRecDepth 100000 in
theorem en_48 (g : Gl) : enE g 48 := rfl
set_option maxRecDepth 100000 in
theorem en_49 (g : Gl) : enE g 49 := rfl
set_option maxRecDepth 100000 in
theorem en_50 (g : Gl) : enE g 50 := rfl
set_option maxRecDepth 100000 in
theorem en_51 (g : Gl) : enE g 51 := rfl
set_option maxRecDepth 100000 in
theorem en_52 (g : Gl) : enE g 52 := rfl
set_option maxRecDepth 100000 in
theorem en_53 (g : Gl) : enE g 53 := rfl
set_option maxRecDepth 100000 in
theorem en_54 (g : Gl) : enE g 54 := rfl
set_option maxRecDepth 100000 in
theorem en_55 (g : Gl) : enE g 55 := rfl
set_option maxRecDepth 100000 in
theorem en_56 (g : Gl) : enE g 56 := rfl
set_option maxRecDepth 100000 in
theorem en_57 (g : Gl) : enE g 57 := rfl
set_option maxRecDepth 100000 in
theorem en_58 (g : Gl) : enE g 58 := rfl
set_option maxRecDepth 100000 in
theorem en_59 (g : Gl) : enE g 59 := rfl
set_option maxRecDepth 100000 in
theorem en_60 (g : Gl) : enE g 60 := rfl
set_option maxRecDepth 100000 in
theorem en_61 (g : Gl) : enE g 61 := rfl
set_option maxRecDepth 100000 in
theorem en_62 (g : Gl) : enE g 62 := rfl
set_option maxRecDepth 100000 in
theorem en_63 (g : Gl) : enE g 63 := rfl
set_option maxRecDepth 100000 in
theorem en_64 (g : Gl) : enE g 64 := rfl
set_option maxRecDepth 100000 in
theorem en_65 (g : Gl) : enE g 65 := rfl
set_option maxRecDepth 100000 in
theorem en_66 (g : Gl) : enE g 66 := rfl
set_option maxRecDepth 100000 in
theorem en_67 (g : Gl) : enE g 67 := rfl
set_option maxRecDepth 100000 in
theorem en_68 (g : Gl) : enE g 68 := rfl
set_option maxRecDepth 100000 in
theorem en_69 (g : Gl) : enE g 69 := rfl
set_option maxRecDepth 100000 in
theorem en_70 (g : Gl) : enE g 70 := rfl
set_option maxRecDepth 100000 in
theorem en_71 (g : Gl) : enE g 71 := rfl
set_option maxRecDepth 100000 in
theorem en_72 (g : Gl) : enE g 72 := rfl
set_option maxRecDepth 100000 in
theorem en_73 (g : Gl) : enE g 73 := rfl
set_option maxRecDepth 100000 in
theorem en_74 (g : Gl) : enE g 74 := rfl
set_option maxRecDepth 100000 in
theorem en_75 (g : Gl) : enE g 75 := rfl
set_option maxRecDepth 100000 in
theorem en_76 (g : Gl) : enE g 76 := rfl
set_option maxRecDepth 100000 in
theorem en_77 (g : Gl) : enE g 77 := rfl
set_option maxRecDepth 100000 in
theorem en_78 (g : Gl) : enE g 78 := rfl
set_option maxRecDepth 100000 in
theorem en_79 (g : Gl) : enE g 79 := rfl
set_option maxRecDepth 100000 in
theorem en_80 (g : Gl) : enE g 80 := rfl
set_option maxRecDepth 100000 in
theorem en_81 (g : Gl) : enE g 81 := rfl
set_option maxRecDepth 100000 in
theorem en_82 (g : Gl) : enE g 82 := rfl
set_option maxRecDepth 100000 in
theorem en_83 (g : Gl) : enE g 83 := rfl
set_option maxRecDepth 100000 in
theorem en_84 (g : Gl) : enE g 84 := rfl
set_option maxRecDepth 100000 in
theorem en_85 (g : Gl) : enE g 85 := rfl
set_option maxRecDepth 100000 in
theorem en_86 (g : Gl) : enE g 86 := rfl
set_option maxRecDepth 100000 in
theorem en_87 (g : Gl) : enE g 87 := rfl
set_option maxRecDepth 100000 in
theorem en_88 (g : Gl) : enE g 88 := rfl
set_option maxRecDepth 100000 in
theorem en_89 (g : Gl) : enE g 89 := rfl
set_option maxRecDepth 100000 in
theorem en_90 (g : Gl) : enE g 90 := rfl
set_option maxRecDepth 100000 in
theorem en_91 (g : Gl) : enE g 91 := rfl
set_option maxRecDepth 100000 in
theorem en_92 (g : Gl) : enE g 92 := rfl
set_option maxRecDepth 100000 in
theorem en_93 (g : Gl) : enE g 93 := rfl
set_option maxRecDepth 100000 in
theorem en_94 (g : Gl) : enE g 94 := rfl
set_option maxRecDepth 100000 in
theorem en_95 (g : Gl) : enE g 95 := rfl
set_option maxRecDepth 100000 in
theorem en_96 (g : Gl) : enE g 96 := rfl
set_option maxRecDepth 100000 in
theorem en_97 (g : Gl) : enE g 97 := rfl
set_option maxRecDepth 100000 in
theorem en_98 (g : Gl) : enE g 98 := rfl
set_option maxRecDepth 100000 in
theorem en_99 (g : Gl) : enE g 99 := rfl
set_option maxRecDepth 100000 in
theorem en_100 (g : Gl) : enE g 100 := rfl
set_option maxRecDepth 100000 in
theorem en_101 (g : Gl) : enE g 101 := rfl
set_option maxRecDepth 100000 in
theorem en_102 (g : Gl) : enE g 102 := rfl
set_option maxRecDepth 100000 in
theorem en_103 (g : Gl) : enE g 103 := rfl
set_option maxRecDepth 100000 in
theorem en_104 (g : Gl) : enE g 104 := rfl
set_option maxRecDepth 100000 in
theorem en_105 (g : Gl) : enE g 105 := rfl
set_option maxRecDepth 100000 in
theorem en_106 (g : Gl) : enE g 106 := rfl
set_option maxRecDepth 100000 in
theorem en_107 (g : Gl) : enE g 107 := rfl
set_option maxRecDepth 100000 in
theorem en_108 (g : Gl) : enE g 108 := rfl
set_option maxRecDepth 100000 in
theorem en_109 (g : Gl) : enE g 109 := rfl
set_option maxRecDepth 100000 in
theorem en_110 (g : Gl) : enE g 110 := rfl
set_option maxRecDepth 100000 in
theorem en_111 (g : Gl) : enE g 111 := rfl
set_option maxRecDepth 100000 in
theorem en_112 (g : Gl) : enE g 112 := rfl
set_option maxRecDepth 100000 in
theorem en_113 (g : Gl) : enE g 113 := rfl
set_option maxRecDepth 100000 in
theorem en_114 (g : Gl) : enE g 114 := rfl
set_option maxRecDepth 100000 in
theorem en_115 (g : Gl) : enE g 115 := rfl
theorem en_0s (g : Gl) : ∀ k, k < 0 → enE g k := fun k h => absurd h (Nat.not_lt_zero k)
theorem en_10s (g : Gl) : ∀ k, k < 10 → enE g k := lt_x (lt_x (lt_x (lt_x (lt_x (lt_x (lt_x (lt_x (lt_x (lt_x (en_0s g) (en_0 g)) (en_1 g)) (en_2 g)) (en_3 g)) (en_4 g)) (en_5 g)) (en_6 g)) (en_7 g)) (en_8 g)) (en_9 g)
theorem en_20s (g : Gl) : ∀ k, k < 20 → enE g k := lt_x (lt_x (lt_x (lt_x (lt_x (lt_x (lt_x (lt_x (lt_x (lt_x (en_10s g) (en_10 g)) (en_11 g)) (en_12 g)) (en_13 g)) (en_14 g)) (en_15 g)) (en_16 g)) (en_17 g)) (en_18 g)) (en_19 g)
theorem en_30s (g : Gl) : ∀ k, k < 30 → enE g k := lt_x (lt_x (lt_x (lt_x (lt_x (lt_x (lt_x (lt_x (lt_x (lt_x (en_20s g) (en_20 g)) (en_21 g)) (en_22 g)) (en_23 g)) (en_24 g)) (en_25 g)) (en_26 g)) (en_27 g)) (en_28 g)) (en_29 g)
theorem en_40s (g : Gl) : ∀ k, k < 40 → enE g k := lt_x (lt_x (lt_x (lt_x (lt_x (lt_x (lt_x (lt_x (lt_x (lt_x (en_30s g) (en_30 g)) (en_31 g)) (en_32 g)) (en_33 g)) (en_34 g)) (en_35 g)) (en_36 g)) (en_37 g)) (en_38 g)) (en_39 g)
theorem en_50s (g : Gl) : ∀ k, k < 50 → enE g k := lt_x (lt_x (lt_x (lt_x (lt_x (lt_x (lt_x (lt_x (lt_x (lt_x (en_40s g) (en_40 g)) (en_41 g)) (en_42 g)) (en_43 g)) (en_44 g)) (en_45 g)) (en_46 g)) (en_47 g)) (en_48 g)) (en_49 g)
theorem en_60s (g : Gl) : ∀ k, k < 60 → enE g k := lt_x (lt_x (lt_x (lt_x (lt_x (lt_x (lt_x (lt_x (lt_x (lt_x (en_50s g) (en_50 g)) (en_51 g)) (en_52 g)) (en_53 g)) (en_54 g)) (en_55 g)) (en_56 g)) (en_57 g)) (en_58 g)) (en_59 g)
theorem en_70s (g : Gl) : ∀ k, k < 70 → enE g k := lt_x (lt_x (lt_x (lt_x (lt_x (lt_x (lt_x (lt_x (lt_x (lt_x (en_60s g) (en_60 g)) (en_61 g)) (en_62 g)) (en_63 g)) (en_64 g)) (en_65 g)) (en_66 g)) (en_67 g)) (en_68 g)) (en_69 g)
theorem en_80s (g : Gl) : ∀ k, k < 80 → enE g k := lt_x (lt_x (lt_x (lt_x (lt_x (lt_x (lt_x (lt_x (lt_x (lt_x (en_70s g) (en_70 g)) (en_71 g)) (en_72 g)) (en_73 g)) (en_74 g)) (en_75 g)) (en_76 g)) (en_77 g)) (en_78 g)) (en_79 g)
theorem en_90s (g : Gl) : ∀ k, k < 90 → enE g k := lt_x (lt_x (lt_x (lt_x (lt_x (lt_x (lt_x (lt_x (lt_x (lt_x (en_80s g) (en_80 g)) (en_81 g)) (en_82 g)) (en_83 g)) (en_84 g)) (en_85 g)) (en_86 g)) (en_87 g)) (en_88 g)) (en_89 g)
theorem en_100s (g : Gl) : ∀ k, k < 100 → enE g k := lt_x (lt_x (lt_x (lt_x (lt_x (lt_x (lt_x (lt_x (lt_x (lt_x (en_90s g) (en_90 g)) (en_91 g)) (en_92 g)) (en_93 g)) (en_94 g)) (en_95 g)) (en_96 g)) (en_97 g)) (en_98 g)) (en_99 g)
theorem en_110s (g : Gl) : ∀ k, k < 110 → enE g k := lt_x (lt_x (lt_x (lt_x (lt_x (lt_x (lt_x (lt_x (lt_x (lt_x (en_100s g) (en_100 g)) (en_101 g)) (en_102 g)) (en_103 g)) (en_104 g)) (en_105 g)) (en_106 g)) (en_107 g)) (en_108 g)) (en_109 g)
theorem en_116s (g : Gl) : ∀ k, k < 116 → enE g k := lt_x (lt_x (lt_x (lt_x (lt_x (lt_x (en_110s g) (en_110 g)) (en_111 g)) (en_112 g)) (en_113 g)) (en_114 g)) (en_115 g)

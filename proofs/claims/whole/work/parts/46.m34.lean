def putL : (Nat → Int32) → Nat → List Int32 → Nat → Int32
  | sn, _, [] => sn
  | sn, k, x :: l => putL (va_up sn k x) (k + 1) l
theorem putL_app : ∀ (l l2 : List Int32) (sn : Nat → Int32) (k : Nat), putL (putL sn k l) (k + l.length) l2 = putL sn k (l ++ l2)
  | [], _, _, _ => rfl
  | x :: l, l2, sn, k => by
    have ih := putL_app l l2 (va_up sn k x) (k + 1)
    rw [show k + (x :: l).length = k + 1 + l.length by rw [List.length_cons]; omega]
    exact ih
def rep (ws : Nat → Int32) : List Int32 → Prop
  | [] => True
  | c :: T => ws T.length = c ∧ rep ws T
theorem rep_up {ws : Nat → Int32} (w : Nat) (v : Int32) : ∀ {T : List Int32}, rep ws T → T.length ≤ w → rep (va_up ws w v) T
  | [], _, _ => trivial
  | c :: T, h, hl => by
    have hl : T.length + 1 ≤ w := hl
    exact ⟨(up_off _ _ (by omega)).trans h.1, rep_up w v h.2 (by omega)⟩
theorem rep_drop {ws : Nat → Int32} : ∀ {T : List Int32}, rep ws T → rep ws (dropB T)
  | [], _ => trivial
  | c :: T, h => by
    by_cases hc : c = 33
    · rw [dropB, ifc_t hc]; exact rep_drop h.2
    · rw [dropB, ifc_f hc]; exact h
theorem rep_stl {ws : Nat → Int32} (s : Int32) : ∀ {T : List Int32}, rep ws T → rep ws (stlT s T)
  | [], _ => trivial
  | c :: T, h => by
    by_cases hc : c = 38 ∨ c = 124 ∧ ¬ s = 38
    · rw [stlT, ifc_t hc]; exact rep_stl s h.2
    · rw [stlT, ifc_f hc]; exact h
theorem mcd_no : mcd Tk_no = -33 := by unfold mcd; rw [ifc_f (by decide), ifc_t (by decide)]
theorem mcd_an : mcd Tk_an = -38 := by unfold mcd; rw [ifc_f (by decide), ifc_f (by decide), ifc_t (by decide)]
theorem mcd_eo : mcd Tk_eo = -124 := by unfold mcd; rw [ifc_f (by decide), ifc_f (by decide), ifc_f (by decide)]
theorem noL_s (k : Nat) : noL (k + 1) = Tk_no :: noL k := rfl
theorem noL_len (k : Nat) : (noL k).length = k := List.length_replicate
theorem whl_L {ws : Nat → Int32} : ∀ (T : List Int32) sg op sn, rep ws T → whl ws T.length sg op sn = ((dropB T).length, sg + cB T, op - nI (cB T), putL sn sg ((noL (cB T)).map mcd))
  | [], sg, op, sn, _ => by
    show (0, sg, op, sn) = (0, sg + 0, op - nI 0, sn)
    rw [i32_s0]; rfl
  | c :: T, sg, op, sn, h => by
    show whl ws (T.length + 1) sg op sn = _
    rw [whl, h.1]
    by_cases hc : c = 33
    · rw [ifc_t hc, whl_L T _ _ _ h.2, dropB, ifc_t hc, cB, ifc_t hc, i32_1, noL_s, show sg + 1 + cB T = sg + (cB T + 1) by omega, ← mcd_no]; rfl
    · rw [ifc_f hc, dropB, ifc_f hc, cB, ifc_f hc, i32_s0]; rfl
theorem stl_L {ws : Nat → Int32} (s : Int32) : ∀ (T : List Int32) sg sn, rep ws T → stl ws s T.length sg sn = ((stlT s T).length, sg + (stlE s T).length, putL sn sg ((stlE s T).map mcd))
  | [], _, _, _ => rfl
  | c :: T, sg, sn, h => by
    show stl ws s (T.length + 1) sg sn = _
    rw [stl, h.1]
    by_cases hc : c = 38 ∨ c = 124 ∧ ¬ s = 38
    · have hm : -c = mcd (ifc (c = 38) Tk_an Tk_eo) := by
        by_cases h38 : c = 38
        · rw [ifc_t h38, mcd_an, h38]
        · rw [ifc_f h38, mcd_eo, (hc.resolve_left h38).1]
      rw [ifc_t hc, stl_L s T _ _ h.2, stlT, ifc_t hc, stlE, ifc_t hc, List.length_cons, hm, show sg + 1 + (stlE s T).length = sg + ((stlE s T).length + 1) by omega]; rfl
    · rw [ifc_f hc, stlT, ifc_f hc, stlE, ifc_f hc]; rfl
theorem em_p (sn : Nat → Int32) (s : Nat) (out e : List Tk) : putL (putL sn s (out.map mcd)) (s + out.length) (e.map mcd) = putL sn s ((out ++ e).map mcd) := by
  have h := putL_app (out.map mcd) (e.map mcd) sn s
  rw [List.length_map] at h
  rw [h, List.map_append]
theorem em_l (s : Nat) (out e : List Tk) : s + out.length + e.length = s + (out ++ e).length := by rw [List.length_append]; omega
section
variable {tx : Nat → Int32} {fd : Nat}
theorem tstV_eq {a : Nat} {dz : Int32} (h : tstOK tx fd a) : tstV tx fd a dz = mcd (tstT tx fd a) := by
  have e : mcd (tstT tx fd a) = 1000 * plc (nxt tx fd a) + 100 * (nxt tx fd (a + 1) - 60) + ifc (digP (nxt tx fd (a + 1 + 1 + 1))) (d2V tx fd (a + 1 + 1)) (d1V tx fd (a + 1 + 1)) := by
    unfold mcd tstT; rw [ifc_t rfl]
  rw [e]; unfold tstV tnD; rw [ifc_t h.2]
theorem tstW_L {a s : Nat} {dz op : Int32} {sn ws : Nat → Int32} {T : List Int32} {out : List Tk} (h : tstOK tx fd a) (hr : rep ws T) :
    tstW tx fd a dz (s + out.length) T.length op (putL sn s (out.map mcd)) ws = ((dropB T).length, s + (out ++ [tstT tx fd a] ++ noL (cB T)).length, op - nI (cB T), putL sn s ((out ++ [tstT tx fd a] ++ noL (cB T)).map mcd)) := by
  unfold tstW
  rw [ifc_t h, whl_L T _ _ _ hr, tstV_eq h]
  have e1 : va_up (putL sn s (out.map mcd)) (s + out.length) (mcd (tstT tx fd a)) = putL sn s ((out ++ [tstT tx fd a]).map mcd) := em_p sn s out [tstT tx fd a]
  have e2 : s + out.length + 1 = s + (out ++ [tstT tx fd a]).length := em_l s out [tstT tx fd a]
  rw [e1, e2, em_p sn s (out ++ [tstT tx fd a]) (noL (cB T)), ← em_l s (out ++ [tstT tx fd a]) (noL (cB T)), noL_len]
theorem stl_L2 {c : Int32} {s : Nat} {sn ws : Nat → Int32} {T : List Int32} {out : List Tk} (hr : rep ws T) :
    stl ws c T.length (s + out.length) (putL sn s (out.map mcd)) = ((stlT c T).length, s + (out ++ stlE c T).length, putL sn s ((out ++ stlE c T).map mcd)) := by
  rw [stl_L c T _ _ hr, em_p, em_l]
theorem whl_L2 {s : Nat} {op : Int32} {sn ws : Nat → Int32} {T : List Int32} {out : List Tk} (hr : rep ws T) :
    whl ws T.length (s + out.length) op (putL sn s (out.map mcd)) = ((dropB T).length, s + (out ++ noL (cB T)).length, op - nI (cB T), putL sn s ((out ++ noL (cB T)).map mcd)) := by
  rw [whl_L T _ _ _ hr, em_p, ← em_l, noL_len]
theorem run_of (s : Nat) (sn : Nat → Int32) : ∀ k b a (T : List Int32) (op : Int32) (out : List Tk) (zk : Bool) (a' : Nat) (T' : List Int32) (op' : Int32) (out' : List Tk) (dg : Int32) (ws : Nat → Int32) (tv : Int32), rep ws T → runL tx fd k b a T op out = some (zk, a', T', op', out') →
    ∃ dg' ws' tv', run tx fd k b a dg (s + out.length) T.length op (putL sn s (out.map mcd)) ws tv = some (zk, a', dg', s + out'.length, T'.length, op', putL sn s (out'.map mcd), ws', tv') ∧ (zk = true → tv' = nI (s + out'.length))
  | 0, _, _, _, _, _, _, _, _, _, _, _, _, _, _, h => absurd (show (none : Option LSz) = some _ from h) (by intro q; cases q)
  | k + 1, true, a, T, op, out, zk, a', T', op', out', dg, ws, tv, hr, h => by
    rw [runL] at h
    rw [run]
    by_cases hb : nxt tx fd a = 33 ∨ nxt tx fd a = 40
    · rw [ifc_t hb] at h ⊢
      by_cases h4 : op = 4
      · rw [ifc_t h4] at h ⊢
        have e := Option.some.inj h
        cases e
        exact ⟨dg, ws, tv, rfl, fun q => by cases q⟩
      · rw [ifc_f h4] at h ⊢
        exact run_of s sn k true (a + 1) (nxt tx fd a :: T) (op + 1) out zk a' T' op' out' dg (va_up ws T.length (nxt tx fd a)) tv ⟨up_at _ _ _, rep_up _ _ hr (Nat.le_refl _)⟩ h
    · rw [ifc_f hb] at h ⊢
      by_cases ht : tstOK tx fd a
      · rw [ifc_t ht] at h ⊢
        rw [tstW_L ht hr]
        exact run_of s sn k false (tstA tx fd a) (dropB T) (op - nI (cB T)) _ zk a' T' op' out' (tstD tx fd a dg) ws tv (rep_drop hr) h
      · rw [ifc_f ht] at h ⊢
        have e := Option.some.inj h
        cases e
        exact ⟨tstD tx fd a dg, ws, tv, rfl, fun q => by cases q⟩
  | k + 1, false, a, T, op, out, zk, a', T', op', out', dg, ws, tv, hr, h => by
    rw [runL] at h
    rw [run]
    by_cases hb : nxt tx fd a = 38 ∨ nxt tx fd a = 124
    · rw [ifc_t hb] at h ⊢
      rw [stl_L2 hr]
      exact run_of s sn k true (a + 1) (nxt tx fd a :: stlT (nxt tx fd a) T) op _ zk a' T' op' out' dg (va_up ws (stlT (nxt tx fd a) T).length (nxt tx fd a)) tv ⟨up_at _ _ _, rep_up _ _ (rep_stl _ hr) (Nat.le_refl _)⟩ h
    · rw [ifc_f hb] at h ⊢
      rw [stl_L2 hr]
      have hrs := rep_stl 124 hr
      generalize stlT 124 T = S at h hrs
      generalize out ++ stlE 124 T = out2 at h
      cases S with
      | nil =>
        rw [ifc_t rfl] at h
        rw [ifc_t (show ([] : List Int32).length = 0 from rfl)]
        have e := Option.some.inj h
        cases e
        exact ⟨dg, ws, _, rfl, fun _ => rfl⟩
      | cons c S =>
        rw [ifc_f (by intro q; cases q)] at h
        rw [ifc_f (show ¬ (c :: S).length = 0 by rw [List.length_cons]; omega)]
        by_cases h41 : nxt tx fd a = 41
        · rw [ifc_t h41] at h ⊢
          show ∃ dg' ws' tv', run tx fd k false (a + 1) dg (whl ws S.length (s + out2.length) (op - 1) (putL sn s (out2.map mcd))).2.1 (whl ws S.length (s + out2.length) (op - 1) (putL sn s (out2.map mcd))).1 (whl ws S.length (s + out2.length) (op - 1) (putL sn s (out2.map mcd))).2.2.1 (whl ws S.length (s + out2.length) (op - 1) (putL sn s (out2.map mcd))).2.2.2 ws (nI (s + out2.length)) = _ ∧ _
          rw [whl_L2 hrs.2]
          exact run_of s sn k false (a + 1) (dropB S) (op - 1 - nI (cB S)) _ zk a' T' op' out' dg ws _ (rep_drop hrs.2) h
        · rw [ifc_f h41] at h ⊢
          have e := Option.some.inj h
          cases e
          exact ⟨dg, ws, _, rfl, fun q => by cases q⟩
end

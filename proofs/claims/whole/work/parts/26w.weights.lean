/-- frames that may still make an object -/
def wF (T : List Dn) (f : Fr) : Nat := if f.2.2.2.2 || (dLk T f.1).isSome then 0 else 1
def wS (T : List Dn) : List Fr → Nat
  | [] => 0
  | f :: S => wF T f + wS T S
theorem wF_le (T : List Dn) (f : Fr) : wF T f ≤ 1 := by unfold wF; split <;> omega
theorem wF_en (T : List Dn) (nm r : Ob) (vs : List Ob) (e : Bds) : wF T (nm, r, vs, e, true) = 0 := rfl
theorem wF_b {T : List Dn} {nm r : Ob} {vs : List Ob} {e : Bds} (h : dLk T nm = none) : wF T (nm, r, vs, e, false) = 1 := by unfold wF; simp [h]
theorem wF_d {T : List Dn} {nm r : Ob} {vs : List Ob} {e : Bds} {en : Bool} {d : Dn} (h : dLk T nm = some d) : wF T (nm, r, vs, e, en) = 0 := by unfold wF; simp [h]

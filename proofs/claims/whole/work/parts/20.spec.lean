/-! WHAT IS DONE, by trees: the machine that evaluates, terms, sizes -/
def yK (k : Nat) : Ob := .index (kn k)
/-- the number of a known name, 24 of others -/
def kIx (x : Ob) : Nat := ((List.range 24).find? (fun k => decide (x = yK k))).getD 24
theorem kIx_k : ∀ k : Nat, k < 24 → kIx (yK k) = k := by
  intro k hk
  have key : ∀ j : Fin 24, kIx (yK j.val) = j.val := by decide +kernel
  exact key ⟨k, hk⟩
theorem kIx_no {x : Ob} (h : ∀ k, k < 24 → x ≠ yK k) : kIx x = 24 := by
  unfold kIx
  rw [List.find?_eq_none.mpr]
  · rfl
  · intro k hk
    have := h k (List.mem_range.mp hk)
    simpa using this
theorem kIx_le (x : Ob) : kIx x ≤ 24 := by
  by_cases h : ∃ k, k < 24 ∧ x = yK k
  · obtain ⟨k, hk, rfl⟩ := h
    rw [kIx_k k hk]; omega
  · rw [kIx_no (fun k hk e => h ⟨k, hk, e⟩)]; exact Nat.le_refl _
theorem kIx_eq {x : Ob} {k : Nat} (hk : k < 24) : kIx x = k ↔ x = yK k := by
  constructor
  · intro e
    by_cases h : ∃ j, j < 24 ∧ x = yK j
    · obtain ⟨j, hj, rfl⟩ := h
      rw [kIx_k j hj] at e; rw [e]
    · rw [kIx_no (fun k hk e => h ⟨k, hk, e⟩)] at e; omega
  · intro e; rw [e, kIx_k k hk]
abbrev Bds : Type := List (Ob × Ob)
/-- a function: name, parameters (a list), body -/
abbrev Dn : Type := Ob × Ob × Ob
/-- an open call: name, terms left (a list), values, environment, entered -/
abbrev Fr : Type := Ob × Ob × List Ob × Bds × Bool
def dLk : List Dn → Ob → Option Dn
  | [], _ => none
  | d :: T, x => if d.1 = x then some d else dLk T x
def eLk : Bds → Ob → Ob
  | [], _ => oNil
  | q :: e, x => if q.1 = x then q.2 else eLk e x
def eHas : Bds → Ob → Bool
  | [], _ => false
  | q :: e, x => if q.1 = x then true else eHas e x
def zipE : Ob → List Ob → Bds
  | .add a b, v :: vs => (a, v) :: zipE b vs
  | _, _ => []
def bEnv : Ob → Bds
  | .add b bs => (obCar b, obCar (obCdr b)) :: bEnv bs
  | _ => []
/-- pairs along a list -/
def spL : Ob → Nat
  | .add _ b => spL b + 1
  | _ => 0
def trO (b : Bool) : Ob := if b then oT else oNil
def MOST : Int := 4611686018427387903
def baseF : Nat → Ob → Ob → Option Ob
  | 4, a, b => some (trO (decide (a = b)))
  | 5, a, b => some (.add a b)
  | 6, a, b => some (trO (decide (a = oNil ∨ b ≠ oNil)))
  | 7, a, b => if obAm a + obAm b ≤ MOST then some (.arg (obAm a + obAm b).toNat) else none
  | 8, a, b => some (.arg (obAm a - obAm b).toNat)
  | 9, a, b => some (trO (decide (obAm a < obAm b)))
  | 10, a, _ => some (trO (obP a))
  | 11, a, _ => some (obCar a)
  | 12, a, _ => some (obCdr a)
  | 13, a, _ => some (trO (obN a))
  | 14, a, _ => some (trO (obS a))
  | 15, a, _ => some (.arg (obHt a).toNat)
  | _, a, _ => some (trO (decide (a = oNil)))
/-- the machine: turns left, what it does (0 a term, 1 a value, 2 goes on), with what, where, open calls, steps, calls made; it ends with a fault (9: no turns left), a value, its steps, and how many calls were made -/
def mRun (T : List Dn) (fu : Nat) : Nat → Nat → Ob → Bds → List Fr → Nat → Nat → Nat × Ob × Nat × Nat
  | 0, _, x, _, _, k, nk => (9, x, k, nk)
  | m + 1, 0, x, e, S, k, nk =>
    if obV x then mRun T fu m 1 (eLk e x) [] S k nk
    else if obP x = false then mRun T fu m 1 x [] S k nk
    else if obCar x = oQuote then mRun T fu m 1 (obCar (obCdr x)) [] S k nk
    else if 300 ≤ S.length then (2, x, k, nk)
    else if fu ≤ k then (1, x, k, nk)
    else mRun T fu m 2 oNil [] ((obCar x, obCdr x, [], e, false) :: S) (k + 1) (max nk (S.length + 1))
  | _ + 1, 1, x, _, [], k, nk => (0, x, k, nk)
  | m + 1, 1, x, _, (nm, r, vs, e, en) :: S, k, nk =>
    if en then mRun T fu m 1 x [] S k nk
    else if nm = yK 3 then mRun T fu m 0 (if x = oNil then obCar (obCdr r) else obCar r) e ((nm, r, vs, e, true) :: S) k nk
    else mRun T fu m 2 oNil [] ((nm, r, vs ++ [x], e, false) :: S) k nk
  | _ + 1, _, x, _, [], k, nk => (0, x, k, nk)
  | m + 1, _, _, _, (nm, r, vs, e, en) :: S, k, nk =>
    if obP r then mRun T fu m 0 (obCar r) e ((nm, obCdr r, vs, e, en) :: S) k nk
    else match dLk T nm with
      | some d => mRun T fu m 0 d.2.2 (zipE d.2.1 vs) ((nm, r, vs, e, true) :: S) k nk
      | none => match baseF (kIx nm) (vs.getD 0 oNil) (vs.getD 1 oNil) with
        | some v => mRun T fu m 1 v [] S k nk
        | none => (3, oNil, k, nk)
/-- how many terms a name takes -/
def arB (k : Nat) : Int := ([-1, -1, -1, 3, 2, 2, 2, 2, 2, 2, 1, 1, 1, 1, 1, 1, 1] : List Int).getD k (-1)
def arT (T : List Dn) (x : Ob) : Int := if kIx x ≤ 16 then arB (kIx x) else match dLk T x with
  | some d => obLen d.2.1
  | none => -1
/-- as a term with these variables, and as a list of terms -/
def wf2 (T : List Dn) (vs : Ob → Bool) : Ob → Bool × Bool
  | .add a b => (obQ (.add a b) || (decide (0 ≤ arT T a ∧ arT T a = obLen b) && (wf2 T vs b).2), (wf2 T vs a).1 && (wf2 T vs b).2)
  | x => (if obV x then vs x else true, true)
/-- a term's size, and that of a list of terms -/
def sz2 : Ob → Nat × Nat
  | .add a b => (if obQ (.add a b) then 1 else 1 + (sz2 b).2, (sz2 a).1 + (sz2 b).2)
  | _ => (1, 0)
/-- a number of the store and its tree -/
def Vl (t : Int → Ob) (n z : Int) (X : Ob) : Prop := 0 ≤ z ∧ z < n ∧ t z = X
def Ext (t : Int → Ob) (n : Int) (t' : Int → Ob) (n' : Int) : Prop := n ≤ n' ∧ ∀ i, 0 ≤ i → i < n → t' i = t i
theorem Ext.rf {t : Int → Ob} {n : Int} : Ext t n t n := ⟨Int.le_refl _, fun _ _ _ => rfl⟩
theorem Ext.tr {t t' t'' : Int → Ob} {n n' n'' : Int} (h : Ext t n t' n') (h' : Ext t' n' t'' n'') : Ext t n t'' n'' := ⟨Int.le_trans h.1 h'.1, fun i h0 h1 => (h'.2 i h0 (Int.lt_of_lt_of_le h1 h.1)).trans (h.2 i h0 h1)⟩
theorem Vl.ext {t t' : Int → Ob} {n n' z : Int} {X : Ob} (h : Vl t n z X) (he : Ext t n t' n') : Vl t' n' z X := ⟨h.1, Int.lt_of_lt_of_le h.2.1 he.1, (he.2 z h.1 h.2.1).trans h.2.2⟩
theorem Vl.k {g : pw_P} {w : pw_W} {b cap : Nat} {t : Int → Ob} {n : Int} (h : SB g w b cap t n) (k : Nat) (hk : k < 24) : Vl t n (k : Int) (yK k) := by
  obtain ⟨-, ⟨σ, h2, -, h3⟩, -⟩ := h
  exact ⟨by omega, by have := h3.2.2.1; omega, h3.2.2.2 k hk⟩
theorem Vl.nil {g : pw_P} {w : pw_W} {b cap : Nat} {t : Int → Ob} {n : Int} (h : SB g w b cap t n) : Vl t n 0 oNil := Vl.k h 0 (by decide)
theorem Vl.inj {g : pw_P} {w : pw_W} {b cap : Nat} {t : Int → Ob} {n z z' : Int} {X Y : Ob} (h : SB g w b cap t n) (hz : Vl t n z X) (hz' : Vl t n z' Y) : z = z' ↔ X = Y := by
  obtain ⟨-, ⟨σ, h2, -, h3⟩, -⟩ := h
  constructor
  · intro e; rw [← hz.2.2, ← hz'.2.2, e]
  · intro e
    exact sT_inj h3 _ z z' rfl hz.1 hz.2.1 hz'.1 hz'.2.1 (by rw [hz.2.2, hz'.2.2, e])
theorem Vl.kix {g : pw_P} {w : pw_W} {b cap : Nat} {t : Int → Ob} {n z : Int} {X : Ob} (h : SB g w b cap t n) (hz : Vl t n z X) : ((kIx X : Nat) : Int) = if z < 24 then z else 24 := by
  by_cases q : z < 24
  · rw [if_pos q]
    have h0 := hz.1
    have e : X = yK z.toNat := (Vl.inj h hz (Vl.k h z.toNat (by omega))).mp (by omega)
    rw [e, kIx_k _ (by omega)]; omega
  · rw [if_neg q, kIx_no]
    · rfl
    · intro k hk e
      have := (Vl.inj h hz (Vl.k h k hk)).mpr e
      omega
theorem Vl.isk {g : pw_P} {w : pw_W} {b cap : Nat} {t : Int → Ob} {n z : Int} {X : Ob} (h : SB g w b cap t n) (hz : Vl t n z X) (k : Nat) (hk : k < 24) : z = (k : Int) ↔ X = yK k := Vl.inj h hz (Vl.k h k hk)
theorem oNil_yK : oNil = yK 0 := rfl
theorem oT_yK : oT = yK 1 := rfl
theorem oQuote_yK : oQuote = yK 2 := rfl
/-- the class's definitions and the functions -/
def DsT (t : Int → Ob) (n : Int) : List Df → List Dn → Prop
  | [], [] => True
  | d :: ds, D :: T => Vl t n d.1 D.1 ∧ d.2.1 = obLen D.2.1 ∧ Vl t n d.2.2.1 D.2.1 ∧ Vl t n d.2.2.2 D.2.2 ∧ DsT t n ds T
  | _, _ => False
theorem DsT.ext {t t' : Int → Ob} {n n' : Int} (he : Ext t n t' n') : ∀ {ds : List Df} {T : List Dn}, DsT t n ds T → DsT t' n' ds T
  | [], [], _ => trivial
  | _ :: _, _ :: _, h => ⟨h.1.ext he, h.2.1, h.2.2.1.ext he, h.2.2.2.1.ext he, DsT.ext he h.2.2.2.2⟩
  | [], _ :: _, h => h.elim
  | _ :: _, [], h => h.elim
theorem DsT.len {t : Int → Ob} {n : Int} : ∀ {ds : List Df} {T : List Dn}, DsT t n ds T → ds.length = T.length
  | [], [], _ => rfl
  | _ :: _, _ :: _, h => by simp [DsT.len h.2.2.2.2]
  | [], _ :: _, h => h.elim
  | _ :: _, [], h => h.elim
theorem DsT.look {g : pw_P} {w : pw_W} {b cap : Nat} {t : Int → Ob} {n z : Int} {X : Ob} (h : SB g w b cap t n) (hz : Vl t n z X) : ∀ {ds : List Df} {T : List Dn} (i0 : Nat), DsT t n ds T → (fIx ds z i0 = none ∧ dLk T X = none) ∨ (∃ (i : Nat) (d : Df) (D : Dn), fIx ds z i0 = some (i0 + i) ∧ ds[i]? = some d ∧ T[i]? = some D ∧ dLk T X = some D ∧ d.1 = z ∧ D.1 = X ∧ d.2.1 = obLen D.2.1 ∧ Vl t n d.2.2.1 D.2.1 ∧ Vl t n d.2.2.2 D.2.2)
  | [], [], i0, _ => Or.inl ⟨rfl, rfl⟩
  | d :: ds, D :: T, i0, hd => by
    simp only [fIx, dLk]
    by_cases e : d.1 = z
    · have e2 : D.1 = X := (Vl.inj h hd.1 hz).mp e
      rw [if_pos e, if_pos e2]
      exact Or.inr ⟨0, d, D, rfl, rfl, rfl, rfl, e, e2, hd.2.1, hd.2.2.1, hd.2.2.2.1⟩
    · have e2 : ¬ D.1 = X := fun q => e ((Vl.inj h hd.1 hz).mpr q)
      rw [if_neg e, if_neg e2]
      rcases DsT.look h hz (i0 + 1) hd.2.2.2.2 with hh | ⟨i, d', D', h1, h2, h3⟩
      · exact Or.inl hh
      · exact Or.inr ⟨i + 1, d', D', by rw [h1]; congr 1; omega, by simpa using h2, by simpa using h3⟩
  | [], _ :: _, _, hd => hd.elim
  | _ :: _, [], _, hd => hd.elim

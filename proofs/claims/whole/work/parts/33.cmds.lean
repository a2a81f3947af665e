/-! THE COMMANDS, by trees -/
def isFN (x : Ob) : Bool := obS x && decide (16 < kIx x)
def psOk : Ob → Bool
  | .add a b => obV a && !obEl a b && psOk b
  | _ => true
def arePs (x : Ob) : Bool := decide (0 ≤ obLen x ∧ obLen x ≤ 6) && psOk x
def bvF : Ob → Ob → Option Ob
  | .add b bs, acc => if obLen b = 2 ∧ obV (obCar b) = true ∧ obEl (obCar b) acc = false then bvF bs (.add (obCar b) acc) else none
  | _, acc => some acc
def bVs (x : Ob) : Option Ob := if obLen x = -1 then none else bvF x oNil
def isDef (T : List Dn) (N P X : Ob) : Bool := isFN N && arePs P && isTm ((N, P, oNil) :: T) (fun q => obEl q P) X
/-- answer, result, steps, fault, calls made -/
abbrev Cr : Type := Nat × Option Ob × Nat × Nat × Nat
def evC (T : List Dn) (fu nk : Nat) (Vs B X : Ob) : Cr :=
  if isTm T (fun q => obEl q Vs) X then (if (mRun T fu 30000 0 X (bEnv B) [] 0 nk).1 = 0 then (0, some (mRun T fu 30000 0 X (bEnv B) [] 0 nk).2.1, (mRun T fu 30000 0 X (bEnv B) [] 0 nk).2.2.1, 0, (mRun T fu 30000 0 X (bEnv B) [] 0 nk).2.2.2) else (4, none, (mRun T fu 30000 0 X (bEnv B) [] 0 nk).2.2.1, (mRun T fu 30000 0 X (bEnv B) [] 0 nk).1, (mRun T fu 30000 0 X (bEnv B) [] 0 nk).2.2.2)) else (2, none, 0, 0, nk)
/-- one element of a map -/
def mp1 (T : List Dn) (fu : Nat) (N v : Ob) (k nk : Nat) : Nat × Ob × Nat × Nat := if fu ≤ k then (1, oNil, k, nk) else mRun T fu 30000 2 oNil [] [(N, oNil, [v], [], false)] (k + 1) (max nk 1)
def mapF (T : List Dn) (fu : Nat) (N : Ob) : List Ob → Nat → Nat → List Ob → Nat × List Ob × Nat × Nat
  | [], k, nk, acc => (0, acc, k, nk)
  | v :: L, k, nk, acc => if (mp1 T fu N v k nk).1 = 0 then mapF T fu N L (mp1 T fu N v k nk).2.2.1 (mp1 T fu N v k nk).2.2.2 ((mp1 T fu N v k nk).2.1 :: acc) else ((mp1 T fu N v k nk).1, acc, (mp1 T fu N v k nk).2.2.1, (mp1 T fu N v k nk).2.2.2)
def mapC (T : List Dn) (fu nk : Nat) (N Ls : Ob) : Cr :=
  if isFN N = true ∧ obLen Ls ≠ -1 then (match dLk T N with
    | none => (3, none, 0, 0, nk)
    | some d => if obLen d.2.1 = 1 then (if (mapF T fu N (lsO Ls) 0 nk []).1 = 0 then (0, some (mkL (mapF T fu N (lsO Ls) 0 nk []).2.1.reverse), (mapF T fu N (lsO Ls) 0 nk []).2.2.1, 0, (mapF T fu N (lsO Ls) 0 nk []).2.2.2) else (4, none, (mapF T fu N (lsO Ls) 0 nk []).2.2.1, (mapF T fu N (lsO Ls) 0 nk []).1, (mapF T fu N (lsO Ls) 0 nk []).2.2.2)) else (2, none, 0, 0, nk)) else (2, none, 0, 0, nk)
def dSet : List Dn → Ob → Ob → Ob → List Dn
  | [], _, _, _ => []
  | d :: T, N, P, X => if d.1 = N then (d.1, P, X) :: T else d :: dSet T N P X
def defC (T : List Dn) (N P X : Ob) : Nat × List Dn := if isDef T N P X then (match dLk T N with
  | some _ => (3, T)
  | none => if 40 ≤ T.length then (8, T) else (0, T ++ [(N, P, X)])) else (2, T)
def redoC (T : List Dn) (N P X : Ob) : Nat × List Dn := if isDef T N P X then (match dLk T N with
  | none => (3, T)
  | some d => if obLen d.2.1 = obLen P then (0, dSet T N P X) else (2, T)) else (2, T)
def undoC (T : List Dn) : Nat × List Dn := match T.getLast? with
  | none => (3, T)
  | some d => if T.dropLast.any (fun q => (cl2 d.1 q.2.2).1) then (3, T) else (0, T.dropLast)
def showC (T : List Dn) (N : Ob) : Nat × Option Ob := if isFN N then (match dLk T N with
  | none => (3, none)
  | some d => (0, some (.add (yK 20) (.add d.1 (.add d.2.1 (.add (pl2 d.2.2).1 oNil)))))) else (2, none)
def cB (T : List Dn) (nk : Nat) : Cr × List Dn := ((2, none, 0, 0, nk), T)
/-- a command: what it answers, and the functions behind it -/
def cmdF (T : List Dn) (fu nk : Nat) (X : Ob) : Cr × List Dn :=
  match kIx (obCar X) with
  | 17 => if obLen X = 2 then (evC T fu nk oNil oNil (obCar (obCdr X)), T) else cB T nk
  | 18 => if obLen X = 3 then (match bVs (obCar (obCdr X)) with
    | none => cB T nk
    | some Vs => (evC T fu nk Vs (obCar (obCdr X)) (obCar (obCdr (obCdr X))), T)) else cB T nk
  | 19 => if obLen X = 3 then (mapC T fu nk (obCar (obCdr X)) (obCar (obCdr (obCdr X))), T) else cB T nk
  | 20 => if obLen X = 4 then (((defC T (obCar (obCdr X)) (obCar (obCdr (obCdr X))) (obCar (obCdr (obCdr (obCdr X))))).1, none, 0, 0, nk), (defC T (obCar (obCdr X)) (obCar (obCdr (obCdr X))) (obCar (obCdr (obCdr (obCdr X))))).2) else cB T nk
  | 21 => if obLen X = 4 then (((redoC T (obCar (obCdr X)) (obCar (obCdr (obCdr X))) (obCar (obCdr (obCdr (obCdr X))))).1, none, 0, 0, nk), (redoC T (obCar (obCdr X)) (obCar (obCdr (obCdr X))) (obCar (obCdr (obCdr (obCdr X))))).2) else cB T nk
  | 22 => if obLen X = 1 then (((undoC T).1, none, 0, 0, nk), (undoC T).2) else cB T nk
  | 23 => if obLen X = 2 then (((showC T (obCar (obCdr X))).1, (showC T (obCar (obCdr X))).2, 0, 0, nk), T) else cB T nk
  | _ => cB T nk
theorem psOk_p {x : Ob} (h : obP x = true) : psOk x = (obV (obCar x) && !obEl (obCar x) (obCdr x) && psOk (obCdr x)) := by cases x <;> simp_all [obP, psOk, obCar, obCdr]
theorem bvF_p {x acc : Ob} (h : obP x = true) : bvF x acc = if obLen (obCar x) = 2 ∧ obV (obCar (obCar x)) = true ∧ obEl (obCar (obCar x)) acc = false then bvF (obCdr x) (.add (obCar (obCar x)) acc) else none := by cases x <;> simp_all [obP, bvF, obCar, obCdr] <;> rfl

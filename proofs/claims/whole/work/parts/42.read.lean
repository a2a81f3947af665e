/-! READING, by trees -/
/-- a letter's place among the letters, and whether it may stand in an atom -/
def atL (c : Int) : Bool := decide (0 < ixZ 1 c)
def rBl (f : Int → Int) : Nat → Bool → Int → Int
  | 0, _, i => i
  | m + 1, c, i => if f i = 10 then rBl f m false (i + 1) else if f i = 59 then rBl f m true (i + 1) else if f i ≠ 32 ∧ c = false then i else rBl f m c (i + 1)
def rWe (f : Int → Int) : Nat → Int → Int
  | 0, i => i
  | m + 1, i => if atL (f i) then rWe f m (i + 1) else i
/-- where the word that begins at i ends -/
def rEnd (f : Int → Int) (len i : Int) : Int := if atL (f i) then rWe f (len - i).toNat i else i + 1
def isDg (c : Int) : Bool := decide (48 ≤ c ∧ c ≤ 57)
/-- digits alone, the amount, the spelling -/
def scF (f : Int → Int) : Nat → Int → Bool → Nat → Nat → Bool × Nat × Nat
  | 0, _, d, v, p => (d, v, p)
  | m + 1, i, d, v, p => scF f m (i + 1) (d && isDg (f i)) (if isDg (f i) then 10 * v + (f i - 48).toNat else v) (p * 47 + (ixZ 1 (f i)).toNat)
def rAt (f : Int → Int) (i j : Int) : Option Ob :=
  if (scF f (j - i).toNat i true 0 0).1 then (if (scF f (j - i).toNat i true 0 0).2.1 ≤ 4611686018427387903 then some (.arg (scF f (j - i).toNat i true 0 0).2.1) else none) else if j - i ≤ 11 then some (.index (scF f (j - i).toNat i true 0 0).2.2) else none
/-- an open place: 0 a list, 1 its last awaited, 2 its last is there, 3 a quote; the items, the newest first; the last -/
abbrev Rf : Type := Nat × List Ob × Ob
def rDel : Ob → List Rf → Option Ob × List Rf
  | v, [] => (some v, [])
  | v, f :: fs => if f.1 = 3 then rDel (.add oQuote (.add v oNil)) fs else if f.1 = 1 then (none, (2, f.2.1, v) :: fs) else (none, (0, v :: f.2.1, oNil) :: fs)
def rLs : List Ob → Ob → Ob
  | [], v => v
  | x :: q, v => rLs q (.add x v)
def mBeg (dn : Option Ob) : List Rf → Bool
  | [] => dn.isNone
  | f :: _ => decide (f.1 ≠ 2)
def mCls : List Rf → Bool
  | [] => false
  | f :: _ => decide (f.1 = 0 ∨ f.1 = 2)
def mDot : List Rf → Bool
  | [] => false
  | f :: _ => decide (f.1 = 0 ∧ f.2.1 ≠ [])
/-- may the word that begins so stand here? -/
def mSt (c : Int) (dn : Option Ob) (F : List Rf) : Bool := if c = 41 then mCls F else if c = 46 then mDot F else mBeg dn F
/-- the least fault of a word -/
def rFa (f : Int → Int) (i j : Int) (wd : Nat) (dn : Option Ob) (F : List Rf) : Nat :=
  if f i ≠ 40 ∧ f i ≠ 39 ∧ f i ≠ 41 ∧ f i ≠ 46 ∧ atL (f i) = false then 1
  else if atL (f i) = true ∧ rAt f i j = none then 2
  else if mSt (f i) dn F = false then 3
  else if (f i = 40 ∨ f i = 39) ∧ 40 ≤ F.length then 4
  else if 1000 ≤ wd then 5 else 0
/-- what a word without a fault does -/
def rTk (f : Int → Int) (i j : Int) (dn : Option Ob) (F : List Rf) : Option Ob × List Rf :=
  if f i = 40 then (dn, (0, [], oNil) :: F) else if f i = 39 then (dn, (3, [], oNil) :: F)
  else if f i = 46 then (match F with | [] => (dn, F) | q :: fs => (dn, (1, q.2.1, oNil) :: fs))
  else if f i = 41 then (match F with | [] => (dn, F) | q :: fs => rDel (rLs q.2.1 q.2.2) fs)
  else rDel ((rAt f i j).getD oNil) F
/-- reading: fault, its place, the object -/
def rRun (f : Int → Int) (len : Int) : Nat → Int → Nat → Option Ob → List Rf → Nat × Int × Ob
  | 0, i, _, _, _ => (9, i, oNil)
  | m + 1, i, wd, dn, F => if len ≤ i then (match dn with | some v => (0, -1, v) | none => (3, len, oNil))
    else if rFa f i (rEnd f len i) wd dn F = 0 then rRun f len m (rBl f (len - rEnd f len i).toNat false (rEnd f len i)) (wd + 1) (rTk f i (rEnd f len i) dn F).1 (rTk f i (rEnd f len i) dn F).2
    else (rFa f i (rEnd f len i) wd dn F, i, oNil)
/-- a whole text -/
def rTx (f : Int → Int) (len : Nat) : Nat × Int × Ob := rRun f len 1002 (rBl f len false 0) 0 none []
/-! what is read is small -/
/-- the longest list inside -/
def mxL : Ob → Nat
  | .add a b => max (spL b + 1) (max (mxL a) (mxL b))
  | _ => 0
def icF (f : Rf) : Nat := f.2.1.length + (if f.1 = 2 then 1 else 0)
def wtF (f : Rf) : Nat := (if f.1 = 3 then 1 else 0) + f.2.1.length + spL f.2.2
def icn : List Rf → Nat
  | [] => 0
  | f :: F => icF f + icn F
def qcn : List Rf → Nat
  | [] => 0
  | f :: F => (if f.1 = 3 then 1 else 0) + qcn F
def wtn : List Rf → Nat
  | [] => 0
  | f :: F => wtF f + wtn F
def FOk (wd : Nat) (f : Rf) : Prop := f.1 ≤ 3 ∧ (f.1 ≠ 2 → f.2.2 = oNil) ∧ (f.1 = 3 → f.2.1 = []) ∧ (∀ x ∈ f.2.1, mxL x ≤ wd) ∧ mxL f.2.2 ≤ wd
def RdP (wd : Nat) (dn : Option Ob) (F : List Rf) : Prop := (dn ≠ none → F = []) ∧ icn F ≤ wd ∧ wtn F ≤ wd ∧ (∀ f ∈ F, FOk wd f) ∧ (∀ v, dn = some v → mxL v ≤ wd) ∧ (∀ f ∈ F.tail, f.1 ≠ 2)
theorem spL_mx (x : Ob) : spL x ≤ mxL x := by cases x <;> simp only [spL, mxL] <;> omega
theorem spL_nil : spL oNil = 0 := rfl
theorem mxL_nil : mxL oNil = 0 := rfl
theorem FOk.up {wd wd' : Nat} {f : Rf} (h : FOk wd f) (hw : wd ≤ wd') : FOk wd' f := ⟨h.1, h.2.1, h.2.2.1, fun x hx => Nat.le_trans (h.2.2.2.1 x hx) hw, Nat.le_trans h.2.2.2.2 hw⟩
theorem rLs_sp : ∀ (q : List Ob) (v : Ob), spL (rLs q v) = q.length + spL v
  | [], v => by simp [rLs]
  | x :: q, v => by rw [rLs, rLs_sp q]; simp only [spL, List.length_cons]; omega
theorem rLs_mx {wd : Nat} : ∀ (q : List Ob) (v : Ob), (∀ x ∈ q, mxL x ≤ wd) → mxL v ≤ wd → q.length + spL v ≤ wd → mxL (rLs q v) ≤ wd
  | [], _, _, h, _ => h
  | x :: q, v, h1, h2, h3 => by
    rw [rLs]
    simp only [List.length_cons] at h3
    refine rLs_mx q _ (fun y hy => h1 y (List.mem_cons_of_mem _ hy)) ?_ ?_
    · have := h1 x List.mem_cons_self
      simp only [mxL]; omega
    · simp only [spL]; omega
/-- putting an object where it belongs -/
theorem rDel_ok {wd : Nat} : ∀ (F : List Rf) (v : Ob), (∀ f ∈ F, FOk wd f) → (∀ f ∈ F, f.1 ≠ 2) → mxL v ≤ wd → icn F + 1 ≤ wd → wtn F + max (spL v) 1 ≤ wd → RdP wd (rDel v F).1 (rDel v F).2
  | [], v, _, _, h2, _, _ => ⟨fun _ => rfl, Nat.zero_le _, Nat.zero_le _, fun f hf => absurd hf (List.not_mem_nil), fun u hu => by cases hu; exact h2, fun f hf => absurd hf (List.not_mem_nil)⟩
  | f :: F, v, h1, hb, h2, h3, h4 => by
    have hf := h1 f List.mem_cons_self
    have hF : ∀ q ∈ F, FOk wd q := fun q hq => h1 q (List.mem_cons_of_mem _ hq)
    have hb0 := hb f List.mem_cons_self
    have hbF : ∀ q ∈ F, q.1 ≠ 2 := fun q hq => hb q (List.mem_cons_of_mem _ hq)
    simp only [icn, icF, wtn, wtF] at h3 h4
    rw [if_neg hb0] at h3
    rw [rDel]
    by_cases e3 : f.1 = 3
    · rw [if_pos e3] at h4 ⊢
      refine rDel_ok F _ hF hbF ?_ (by omega) ?_
      · simp only [mxL, spL, oQuote, oNil]; omega
      · simp only [spL, oNil]; omega
    · rw [if_neg e3] at h4 ⊢
      have hl : f.2.2 = oNil := hf.2.1 hb0
      rw [hl, spL_nil] at h4
      by_cases e1 : f.1 = 1
      · rw [if_pos e1]
        refine ⟨fun h => absurd rfl h, ?_, ?_, fun q hq => ?_, (fun u hu => by cases hu), hbF⟩
        · simp only [icn, icF, if_true]; omega
        · simp only [wtn, wtF]; rw [if_neg (by decide)]; omega
        · rcases List.mem_cons.mp hq with rfl | hq
          · exact ⟨Nat.le_of_ble_eq_true rfl, fun h => absurd rfl h, (fun h => by cases h), hf.2.2.2.1, h2⟩
          · exact hF q hq
      · rw [if_neg e1]
        refine ⟨fun h => absurd rfl h, ?_, ?_, fun q hq => ?_, (fun u hu => by cases hu), hbF⟩
        · simp only [icn, icF, List.length_cons]; rw [if_neg (by decide)]; omega
        · simp only [wtn, wtF, List.length_cons, spL_nil]; rw [if_neg (by decide)]; omega
        · rcases List.mem_cons.mp hq with rfl | hq
          · refine ⟨Nat.zero_le _, fun _ => rfl, (fun h => by cases h), fun x hx => ?_, Nat.zero_le _⟩
            rcases List.mem_cons.mp hx with rfl | hx
            · exact h2
            · exact hf.2.2.2.1 x hx
          · exact hF q hq
theorem rDel_len : ∀ (F : List Rf) (v : Ob), (rDel v F).2.length ≤ F.length
  | [], _ => Nat.le_refl _
  | f :: F, v => by
    rw [rDel]
    split
    · exact Nat.le_succ_of_le (rDel_len F _)
    · split <;> simp
theorem rFa_0 {f : Int → Int} {i j : Int} {wd : Nat} {dn : Option Ob} {F : List Rf} (h : rFa f i j wd dn F = 0) : (f i = 40 ∨ f i = 39 ∨ f i = 41 ∨ f i = 46 ∨ (atL (f i) = true)) ∧ (atL (f i) = true → rAt f i j ≠ none) ∧ mSt (f i) dn F = true ∧ ((f i = 40 ∨ f i = 39) → F.length < 40) ∧ wd < 1000 := by
  unfold rFa at h
  split at h
  · cases h
  · rename_i a1
    split at h
    · cases h
    · rename_i a2
      split at h
      · cases h
      · rename_i a3
        split at h
        · cases h
        · rename_i a4
          split at h
          · cases h
          · rename_i a5
            refine ⟨?_, fun q e => a2 ⟨q, e⟩, by simpa using a3, fun q => by have := fun e => a4 ⟨q, e⟩; omega, by omega⟩
            by_cases b1 : f i = 40
            · exact Or.inl b1
            · by_cases b2 : f i = 39
              · exact Or.inr (Or.inl b2)
              · by_cases b3 : f i = 41
                · exact Or.inr (Or.inr (Or.inl b3))
                · by_cases b4 : f i = 46
                  · exact Or.inr (Or.inr (Or.inr (Or.inl b4)))
                  · refine Or.inr (Or.inr (Or.inr (Or.inr ?_)))
                    by_cases b5 : atL (f i) = true
                    · exact b5
                    · exact absurd ⟨b1, b2, b3, b4, by simpa using b5⟩ a1
theorem rAt_mx {f : Int → Int} {i j : Int} : mxL ((rAt f i j).getD oNil) = 0 ∧ spL ((rAt f i j).getD oNil) = 0 := by
  unfold rAt
  split
  · split <;> exact ⟨rfl, rfl⟩
  · split <;> exact ⟨rfl, rfl⟩
theorem RdP.up {wd wd' : Nat} {dn : Option Ob} {F : List Rf} (h : RdP wd dn F) (hw : wd ≤ wd') : RdP wd' dn F := ⟨h.1, by have := h.2.1; omega, by have := h.2.2.1; omega, fun f hf => (h.2.2.2.1 f hf).up hw, fun v hv => Nat.le_trans (h.2.2.2.2.1 v hv) hw, h.2.2.2.2.2⟩
theorem RdP.ne2 {wd : Nat} {dn : Option Ob} {F : List Rf} (h : RdP wd dn F) (hb : mBeg dn F = true) : ∀ f ∈ F, f.1 ≠ 2 := by
  intro f hf
  cases F with
  | nil => cases hf
  | cons q F =>
    rcases List.mem_cons.mp hf with rfl | hf
    · simpa [mBeg] using hb
    · exact h.2.2.2.2.2 f hf
theorem RdP.dn {wd : Nat} {dn : Option Ob} {F : List Rf} (h : RdP wd dn F) (hb : mBeg dn F = true) : dn = none := by
  cases F with
  | nil => simpa [mBeg] using hb
  | cons q F => 
    cases dn with
    | none => rfl
    | some v => exact absurd (h.1 (by simp)) (by simp)
theorem RdP.dnc {wd : Nat} {dn : Option Ob} {q : Rf} {F : List Rf} (h : RdP wd dn (q :: F)) : dn = none := by
  cases dn with
  | none => rfl
  | some v => exact absurd (h.1 (by simp)) (by simp)
theorem rTk_ok {f : Int → Int} {i j : Int} {wd : Nat} {dn : Option Ob} {F : List Rf} (h : RdP wd dn F) (hl : F.length ≤ 40) (h0 : rFa f i j wd dn F = 0) : RdP (wd + 1) (rTk f i j dn F).1 (rTk f i j dn F).2 ∧ (rTk f i j dn F).2.length ≤ 40 := by
  obtain ⟨a1, a2, a3, a4, a5⟩ := rFa_0 h0
  have hu := h.up (Nat.le_succ wd)
  unfold rTk
  by_cases b1 : f i = 40
  · rw [if_pos b1]
    have hm : mBeg dn F = true := by unfold mSt at a3; rw [if_neg (by omega), if_neg (by omega)] at a3; exact a3
    have h40 := a4 (Or.inl b1)
    refine ⟨⟨fun hd => absurd (h.dn hm) hd, ?_, ?_, fun q hq => ?_, hu.2.2.2.2.1, h.ne2 hm⟩, by simp; omega⟩
    · have := hu.2.1; simpa [icn, icF] using this
    · have := hu.2.2.1; simpa [wtn, wtF, spL_nil] using this
    · rcases List.mem_cons.mp hq with rfl | hq
      · exact ⟨Nat.zero_le _, fun _ => rfl, fun _ => rfl, fun x hx => absurd hx (List.not_mem_nil), Nat.zero_le _⟩
      · exact hu.2.2.2.1 q hq
  · rw [if_neg b1]
    by_cases b2 : f i = 39
    · rw [if_pos b2]
      have hm : mBeg dn F = true := by unfold mSt at a3; rw [if_neg (by omega), if_neg (by omega)] at a3; exact a3
      have h40 := a4 (Or.inr b2)
      refine ⟨⟨fun hd => absurd (h.dn hm) hd, ?_, ?_, fun q hq => ?_, hu.2.2.2.2.1, h.ne2 hm⟩, by simp; omega⟩
      · have := hu.2.1; simpa [icn, icF] using this
      · have := h.2.2.1; simp only [wtn, wtF, spL_nil, if_true, List.length_nil]; omega
      · rcases List.mem_cons.mp hq with rfl | hq
        · exact ⟨Nat.le_refl _, fun _ => rfl, fun _ => rfl, fun x hx => absurd hx (List.not_mem_nil), Nat.zero_le _⟩
        · exact hu.2.2.2.1 q hq
    · rw [if_neg b2]
      by_cases b3 : f i = 46
      · rw [if_pos b3]
        cases F with
        | nil => exact ⟨hu, by simp⟩
        | cons q F =>
          have hm : q.1 = 0 ∧ q.2.1 ≠ [] := by unfold mSt at a3; rw [if_neg (by omega), if_pos b3] at a3; simpa [mDot] using a3
          have hq := hu.2.2.2.1 q List.mem_cons_self
          have hn : q.2.2 = oNil := hq.2.1 (by omega)
          refine ⟨⟨fun hd => absurd h.dnc hd, ?_, ?_, fun y hy => ?_, hu.2.2.2.2.1, h.2.2.2.2.2⟩, by simpa using hl⟩
          · have := hu.2.1; simp only [icn, icF] at this ⊢; rw [if_neg (by omega)] at this; rw [if_neg (by decide)]; exact this
          · have := hu.2.2.1; simp only [wtn, wtF] at this ⊢; rw [if_neg (by omega), hn] at this; rw [if_neg (by decide)]; exact this
          · rcases List.mem_cons.mp hy with rfl | hy
            · exact ⟨Nat.le_of_ble_eq_true rfl, fun _ => rfl, (fun h => by cases h), hq.2.2.2.1, Nat.zero_le _⟩
            · exact hu.2.2.2.1 y (List.mem_cons_of_mem _ hy)
      · rw [if_neg b3]
        by_cases b4 : f i = 41
        · rw [if_pos b4]
          cases F with
          | nil => exact ⟨hu, by simp⟩
          | cons q F =>
            have hm : q.1 = 0 ∨ q.1 = 2 := by unfold mSt at a3; rw [if_pos b4] at a3; simpa [mCls] using a3
            have hq := h.2.2.2.1 q List.mem_cons_self
            have i1 := h.2.1
            have i2 := h.2.2.1
            simp only [icn, icF, wtn, wtF] at i1 i2
            rw [if_neg (by omega)] at i2
            refine ⟨rDel_ok F _ (fun y hy => hu.2.2.2.1 y (List.mem_cons_of_mem _ hy)) h.2.2.2.2.2 ?_ ?_ ?_, ?_⟩
            · exact rLs_mx _ _ (fun x hx => Nat.le_succ_of_le (hq.2.2.2.1 x hx)) (Nat.le_succ_of_le hq.2.2.2.2) (by omega)
            · omega
            · rw [rLs_sp]; omega
            · show (rDel (rLs q.2.1 q.2.2) F).2.length ≤ 40; have := rDel_len F (rLs q.2.1 q.2.2); simp only [List.length_cons] at hl; omega
        · rw [if_neg b4]
          have hm : mBeg dn F = true := by unfold mSt at a3; rw [if_neg b4, if_neg b3] at a3; exact a3
          have i1 := h.2.1
          have i2 := h.2.2.1
          have e := rAt_mx (f := f) (i := i) (j := j)
          refine ⟨rDel_ok F _ hu.2.2.2.1 (h.ne2 hm) (by omega) (by omega) (by omega), ?_⟩
          have := rDel_len F ((rAt f i j).getD oNil)
          omega
theorem RdP.start : RdP 0 none [] := ⟨fun _ => rfl, Nat.le_refl _, Nat.le_refl _, fun _ h => absurd h List.not_mem_nil, (fun _ h => by cases h), fun _ h => absurd h List.not_mem_nil⟩

/-! A TERM IS BUILT: what is open -/
abbrev TF : Type := Ob × Ob × List Ob
def va1 : Ob → Bool := fun _ => true
def btL : List TF → List Ob
  | [] => []
  | f :: S => btL S ++ f.2.2
def FrT (t : Int → Ob) (n : Int) (g1 g2 g3 : Int → Int) : List TF → Prop
  | [] => True
  | f :: S => (∃ Xc, Vl t n (g1 ((S.length : Nat) : Int)) Xc ∧ obP Xc = true ∧ obCar Xc = f.1) ∧ Vl t n (g2 ((S.length : Nat) : Int)) f.2.1 ∧ g3 ((S.length : Nat) : Int) = (((btL S).length : Nat) : Int) ∧ f.1 ≠ oQuote ∧ 0 ≤ obLen f.2.1 ∧ FrT t n g1 g2 g3 S
theorem FrT.keep {t t' : Int → Ob} {n n' : Int} {g1 g2 g3 h1 h2 h3 : Int → Int} (he : Ext t n t' n') : ∀ {S : List TF}, FrT t n g1 g2 g3 S → (∀ j : Int, 0 ≤ j → j < S.length → h1 j = g1 j ∧ h2 j = g2 j ∧ h3 j = g3 j) → FrT t' n' h1 h2 h3 S
  | [], _, _ => trivial
  | f :: S, h, hk => by
    obtain ⟨k1, k2, k3⟩ := hk ((S.length : Nat) : Int) (by omega) (by simp only [List.length_cons]; omega)
    obtain ⟨⟨Xc, a1, a2, a3⟩, a4, a5, a6, a7, a8⟩ := h
    exact ⟨⟨Xc, by rw [k1]; exact a1.ext he, a2, a3⟩, by rw [k2]; exact a4.ext he, by rw [k3]; exact a5, a6, a7, FrT.keep he a8 (fun j j0 j1 => hk j j0 (by simp only [List.length_cons]; omega))⟩
def gdS (T : List Dn) : List TF → Bool
  | [] => true
  | f :: S => (wf2 T va1 f.2.1).2 && gdS T S
def cF (f : TF) : Ob := .add f.1 (mkL (f.2.2 ++ (lsO f.2.1).map (fun y => (pl2 y).1)))
def tmV : List TF → Ob → Ob
  | [], v => v
  | f :: S, v => tmV S (cF (f.1, f.2.1, f.2.2 ++ [v]))
/-- what the open calls come to -/
def tmX : List TF → Ob
  | [] => oNil
  | f :: S => tmV S (cF f)
def nd2 : Ob → Nat × Nat
  | .add a b => (1 + (nd2 b).2, (nd2 a).1 + (nd2 b).2)
  | _ => (1, 0)
def ndS : List TF → Nat
  | [] => 0
  | f :: S => (nd2 f.2.1).2 + ndS S
theorem nd2_1 (x : Ob) : 1 ≤ (nd2 x).1 := by cases x <;> simp only [nd2] <;> omega
theorem nd2_p {x : Ob} (h : obP x = true) : (nd2 x).1 = 1 + (nd2 (obCdr x)).2 ∧ (nd2 x).2 = (nd2 (obCar x)).1 + (nd2 (obCdr x)).2 := by cases x <;> first | exact ⟨rfl, rfl⟩ | cases h
theorem tmX_arg {N R : Ob} {L : List Ob} {S : List TF} (hp : obP R = true) : tmX ((N, R, L) :: S) = tmX ((N, obCdr R, L ++ [(pl2 (obCar R)).1]) :: S) := by
  simp only [tmX, cF]
  rw [lsO_p hp]
  simp
theorem cF_nil {N : Ob} {L : List Ob} : cF (N, oNil, L) = .add N (mkL L) := by
  simp only [cF]
  rw [lsO_np obP_nil]
  simp
theorem pl_call {X : Ob} (hp : obP X = true) (hq : obQ X = false) (hl : 0 ≤ obLen (obCdr X)) : (pl2 X).1 = cF (obCar X, obCdr X, []) := by
  cases X with
  | add a c =>
    have e : (pl2 (.add a c)).1 = .add a (pl2 c).2 := by
      simp only [pl2]
      split
      · rename_i h; rw [hq] at h; cases h
      · rfl
    rw [e]
    simp only [cF, obCar, obCdr, List.nil_append]
    have := mkL_ls (x := c) hl
    rw [this]
  | _ => cases hp
theorem wf_bg {T : List Dn} {X : Ob} (h : bgO T X = false) : (wf2 T va1 X).1 = false := by
  cases X with
  | add a c =>
    unfold bgO at h
    simp only [obP, Bool.not_true, Bool.false_or, Bool.or_eq_false_iff, Bool.and_eq_false_iff, decide_eq_false_iff_not] at h
    simp only [wf2, h.1, Bool.false_or]
    rcases h.2 with q | q
    · have hq : a = oQuote := by
        by_cases e : a = oQuote
        · exact e
        · exact absurd e q
      have ha : arT T a = -1 := by
        unfold arT
        rw [hq, show kIx oQuote = 2 from kIx_k 2 (by decide), if_pos (by decide)]
        rfl
      rw [decide_eq_false (p := 0 ≤ arT T a ∧ arT T a = obLen c) (by rw [ha]; omega), Bool.false_and]
    · rw [decide_eq_false (p := 0 ≤ arT T a ∧ arT T a = obLen c) q, Bool.false_and]
  | _ => cases h
theorem wf_call {T : List Dn} {X : Ob} (h : bgO T X = true) (hc : isCl X = true) : (wf2 T va1 X).1 = (wf2 T va1 (obCdr X)).2 ∧ obP X = true ∧ obQ X = false ∧ 0 ≤ obLen (obCdr X) ∧ obCar X ≠ oQuote := by
  unfold isCl at hc
  simp only [Bool.and_eq_true, decide_eq_true_eq] at hc
  cases X with
  | add a c =>
    have hq : obQ (.add a c) = false := by unfold obQ; rw [decide_eq_false (p := obCar (.add a c) = oQuote) hc.2]; rfl
    unfold bgO at h
    rw [hq, decide_eq_true (p := obCar (.add a c) ≠ oQuote) hc.2] at h
    simp only [obP, Bool.not_true, Bool.false_or, Bool.true_and, decide_eq_true_eq] at h
    refine ⟨?_, rfl, hq, by have := h.1; have := h.2; omega, hc.2⟩
    show (wf2 T va1 (.add a c)).1 = (wf2 T va1 c).2
    simp only [wf2, hq, Bool.false_or]
    rw [decide_eq_true (p := 0 ≤ arT T a ∧ arT T a = obLen c) h, Bool.true_and]
  | _ => cases hc.1
theorem wf_one {T : List Dn} {X : Ob} (h : bgO T X = true) (hc : isCl X = false) : (wf2 T va1 X).1 = true ∧ (obP X = false ∨ obQ X = true) := by
  cases X with
  | add a c =>
    have ha : a = oQuote := by
      unfold isCl at hc
      by_cases e : a = oQuote
      · exact e
      · rw [decide_eq_true (p := obCar (.add a c) ≠ oQuote) e] at hc; cases hc
    have hq : obQ (.add a c) = true := by
      unfold bgO at h
      rw [decide_eq_false (p := obCar (.add a c) ≠ oQuote) (fun q => q ha)] at h
      simpa [obP] using h
    refine ⟨?_, Or.inr hq⟩
    simp only [wf2, hq, Bool.true_or]
  | _ => exact ⟨by simp only [wf2]; split <;> rfl, Or.inl rfl⟩
theorem pl2_sz (T : List Dn) : ∀ x : Ob, ((wf2 T va1 x).1 = true → (sz2 (pl2 x).1).1 = (sz2 x).1) ∧ ((wf2 T va1 x).2 = true → 0 ≤ obLen x → (sz2 (pl2 x).2).2 = (sz2 x).2) := by
  intro x
  induction x with
  | add a c ha hc =>
    constructor
    · intro h
      by_cases hq : obQ (.add a c) = true
      · rw [(pl_nc (Or.inr hq)).2]; simp only [sz2]; rw [if_pos hq]
      · have hq' : obQ (.add a c) = false := by simpa using hq
        simp only [wf2, hq', Bool.false_or, Bool.and_eq_true, decide_eq_true_eq] at h
        have hne : a ≠ oQuote := by
          intro e
          have h1 := h.1.1
          rw [e] at h1
          unfold arT at h1
          rw [show kIx oQuote = 2 from kIx_k 2 (by decide), if_pos (by decide)] at h1
          exact absurd h1 (by decide)
        have hl : 0 ≤ obLen c := by have := h.1.1; have := h.1.2; omega
        rw [pl_call (X := .add a c) rfl hq' hl]
        have e1 : cF (obCar (.add a c), obCdr (.add a c), []) = .add a (mkL ((lsO c).map (fun y => (pl2 y).1))) := by simp only [cF, obCar, obCdr, List.nil_append]
        rw [e1, (sz2_call hne).2, ← mkL_ls hl, hc.2 h.2 hl]
        simp only [sz2]; rw [if_neg hq]
    · intro h hl
      simp only [wf2, Bool.and_eq_true] at h
      have hl2 := (obLen_cdr (x := .add a c) rfl hl).2
      show (sz2 (.add (pl2 a).1 (pl2 c).2)).2 = _
      simp only [sz2]
      rw [ha.1 h.1, hc.2 h.2 hl2]
  | _ => exact ⟨fun _ => rfl, fun _ _ => rfl⟩
theorem szm_120 {V : Ob} (h : isCl V = false → (sz2 V).1 = 1) : szm V ≤ 120 ↔ (sz2 V).1 ≤ 120 := by
  unfold szm
  split
  · omega
  · rename_i q; rw [h (by simpa using q)]

/-! WHAT STAYS TRUE while terms are evaluated -/
def FrOk (T : List Dn) (aw : Int) (f : Fr) : Prop := 0 ≤ obLen f.2.1 ∧ (wf2 T (eHas f.2.2.2.1) f.2.1).2 = true ∧ (f.2.2.2.2 = false → (f.2.2.1.length : Int) + aw + obLen f.2.1 = arT T f.1 ∧ (f.1 = yK 3 → f.2.2.1 = []))
def FrsOk (T : List Dn) : List Fr → Prop
  | [] => True
  | f :: S => FrOk T 1 f ∧ FrsOk T S
/-- the functions that are defined are as they must be -/
def TOk (T : List Dn) : Prop := ∀ d ∈ T, 16 < kIx d.1 ∧ 0 ≤ obLen d.2.1 ∧ obLen d.2.1 ≤ 6 ∧ (wf2 T (fun x => obEl x d.2.1) d.2.2).1 = true
theorem dLk_mem {T : List Dn} {x : Ob} {d : Dn} (h : dLk T x = some d) : d ∈ T ∧ d.1 = x := by
  induction T with
  | nil => cases h
  | cons q T ih =>
    simp only [dLk] at h
    split at h
    · rename_i e
      cases h
      exact ⟨List.mem_cons_self, e⟩
    · exact ⟨List.mem_cons_of_mem _ (ih h).1, (ih h).2⟩
theorem arB_in : ∀ k : Nat, -1 ≤ arB k ∧ arB k ≤ 3 ∧ (k = 0 ∨ k = 1 ∨ k = 2 → arB k = -1) := by
  intro k
  by_cases hk : k < 17
  · have key : ∀ j : Fin 17, -1 ≤ arB j.val ∧ arB j.val ≤ 3 ∧ (j.val = 0 ∨ j.val = 1 ∨ j.val = 2 → arB j.val = -1) := by decide
    exact key ⟨k, hk⟩
  · unfold arB
    rw [List.getD_eq_getElem?_getD, List.getElem?_eq_none (by simp; omega)]
    exact ⟨by simp, by simp, by omega⟩
theorem arT_le {T : List Dn} (hT : TOk T) (x : Ob) : arT T x ≤ 6 := by
  unfold arT
  split
  · have := arB_in (kIx x); omega
  · split
    · rename_i d h
      exact (hT d (dLk_mem h).1).2.2.1
    · decide
theorem wf2_mono {T : List Dn} {vs vs' : Ob → Bool} (h : ∀ x, vs x = true → vs' x = true) : ∀ x : Ob, ((wf2 T vs x).1 = true → (wf2 T vs' x).1 = true) ∧ ((wf2 T vs x).2 = true → (wf2 T vs' x).2 = true) := by
  intro x
  induction x with
  | add a b ha hb =>
    simp only [wf2, Bool.or_eq_true, Bool.and_eq_true]
    exact ⟨fun q => q.elim Or.inl (fun q => Or.inr ⟨q.1, hb.2 q.2⟩), fun q => ⟨ha.1 q.1, hb.2 q.2⟩⟩
  | _ =>
    simp only [wf2]
    refine ⟨fun q => ?_, fun q => q⟩
    split at q
    · rename_i e; rw [if_pos e]; exact h _ q
    · rename_i e; rw [if_neg e]
theorem eHas_zip (x : Ob) : ∀ (P : Ob) (vs : List Ob), obLen P = (vs.length : Int) → obEl x P = true → eHas (zipE P vs) x = true := by
  intro P
  induction P with
  | add a b ha hb =>
    intro vs h1 h2
    cases vs with
    | nil =>
      have := obLen_ge b
      simp only [obLen, List.length_nil] at h1
      split at h1 <;> omega
    | cons v vs =>
      simp only [zipE, eHas]
      simp only [obEl] at h2
      split
      · rfl
      · rename_i e
        rw [if_neg e] at h2
        refine hb vs ?_ h2
        have := obLen_ge b
        simp only [obLen, List.length_cons] at h1
        split at h1 <;> omega
  | _ => intro vs h1 h2; simp [obEl] at h2
theorem wf_p {T : List Dn} {vs : Ob → Bool} {x : Ob} (hp : obP x = true) (hq : ¬ obCar x = oQuote) (h : (wf2 T vs x).1 = true) : 0 ≤ arT T (obCar x) ∧ arT T (obCar x) = obLen (obCdr x) ∧ (wf2 T vs (obCdr x)).2 = true := by
  cases x with
  | add a b =>
    simp only [wf2, Bool.or_eq_true, Bool.and_eq_true, decide_eq_true_eq] at h
    rcases h with h | h
    · simp only [obQ, Bool.and_eq_true, decide_eq_true_eq] at h
      exact absurd h.1 hq
    · exact ⟨h.1.1, h.1.2, h.2⟩
  | _ => cases hp
theorem wf_l {T : List Dn} {vs : Ob → Bool} {x : Ob} (hp : obP x = true) (h : (wf2 T vs x).2 = true) : (wf2 T vs (obCar x)).1 = true ∧ (wf2 T vs (obCdr x)).2 = true := by
  cases x with
  | add a b => simp only [wf2, Bool.and_eq_true] at h; exact h
  | _ => cases hp
theorem obLen_cdr {x : Ob} (hp : obP x = true) (h : 0 ≤ obLen x) : obLen (obCdr x) = obLen x - 1 ∧ 0 ≤ obLen (obCdr x) := by
  have h1 := obLen_p hp
  have h2 := obLen_ge (obCdr x)
  split at h1 <;> omega
theorem obLen_pos {x : Ob} (h : 0 < obLen x) : obP x = true := by
  cases hb : obP x with
  | true => rfl
  | false => have := obLen_np hb (by omega); omega
theorem ok_push {T : List Dn} {x : Ob} {e : Bds} {S : List Fr} (hp : obP x = true) (hq : ¬ obCar x = oQuote) (h : (wf2 T (eHas e) x).1 = true) : FrOk T 0 (obCar x, obCdr x, [], e, false) := by
  obtain ⟨h1, h2, h3⟩ := wf_p hp hq h
  exact ⟨by show 0 ≤ obLen (obCdr x); omega, h3, fun _ => ⟨by show ((([] : List Ob).length : Nat) : Int) + 0 + obLen (obCdr x) = arT T (obCar x); simp only [List.length_nil]; omega, fun _ => rfl⟩⟩
theorem ok_if {T : List Dn} {x r : Ob} {vs : List Ob} {e : Bds} (h : FrOk T 1 (yK 3, r, vs, e, false)) : (wf2 T (eHas e) (if x = oNil then obCar (obCdr r) else obCar r)).1 = true ∧ FrOk T 1 (yK 3, r, vs, e, true) := by
  obtain ⟨h1, h2, h3⟩ := h
  obtain ⟨h4, h5⟩ := h3 rfl
  simp only at h1 h2 h4 h5
  have h6 : obLen r = 2 := by
    rw [h5 trivial, show arT T (yK 3) = 3 from by unfold arT; rw [if_pos (by rw [kIx_k 3 (by decide)]; decide), kIx_k 3 (by decide)]; rfl] at h4
    simp only [List.length_nil] at h4
    omega
  have hp := obLen_pos (x := r) (by omega)
  obtain ⟨k1, k2⟩ := wf_l hp h2
  have hp2 := obLen_pos (x := obCdr r) (by have := obLen_cdr hp h1; omega)
  obtain ⟨k3, k4⟩ := wf_l hp2 k2
  refine ⟨?_, h1, h2, fun q => by cases q⟩
  split
  · exact k3
  · exact k1
theorem ok_add {T : List Dn} {x nm r : Ob} {vs : List Ob} {e : Bds} (hT : TOk T) (hn : ¬ nm = yK 3) (h : FrOk T 1 (nm, r, vs, e, false)) : FrOk T 0 (nm, r, vs ++ [x], e, false) ∧ vs.length < 6 := by
  obtain ⟨h1, h2, h3⟩ := h
  obtain ⟨h4, h5⟩ := h3 rfl
  simp only at h1 h4
  have := arT_le hT nm
  refine ⟨⟨h1, h2, fun _ => ⟨?_, fun q => absurd q hn⟩⟩, by omega⟩
  show (((vs ++ [x]).length : Nat) : Int) + 0 + obLen r = arT T nm
  simp only [List.length_append, List.length_singleton]
  omega
theorem ok_arg {T : List Dn} {nm r : Ob} {vs : List Ob} {e : Bds} (hp : obP r = true) (h : FrOk T 0 (nm, r, vs, e, false)) : (wf2 T (eHas e) (obCar r)).1 = true ∧ FrOk T 1 (nm, obCdr r, vs, e, false) := by
  obtain ⟨h1, h2, h3⟩ := h
  obtain ⟨h4, h5⟩ := h3 rfl
  simp only at h1 h2 h4 h5
  obtain ⟨k1, k2⟩ := wf_l hp h2
  obtain ⟨k3, k4⟩ := obLen_cdr hp h1
  refine ⟨k1, k4, k2, fun _ => ⟨?_, h5⟩⟩
  show (vs.length : Int) + 1 + obLen (obCdr r) = arT T nm
  omega
theorem ok_body {T : List Dn} {nm r : Ob} {vs : List Ob} {e : Bds} {d : Dn} (hT : TOk T) (hp : obP r = false) (hd : dLk T nm = some d) (h : FrOk T 0 (nm, r, vs, e, false)) : obLen d.2.1 = (vs.length : Int) ∧ (wf2 T (eHas (zipE d.2.1 vs)) d.2.2).1 = true ∧ FrOk T 1 (nm, r, vs, e, true) := by
  obtain ⟨h1, h2, h3⟩ := h
  obtain ⟨h4, h5⟩ := h3 rfl
  simp only at h1 h2 h4 h5
  have hl := (obLen_np hp h1).2
  obtain ⟨m1, m2⟩ := dLk_mem hd
  obtain ⟨t1, t2, t3, t4⟩ := hT d m1
  rw [m2] at t1
  have ha : arT T nm = obLen d.2.1 := by unfold arT; rw [if_neg (by omega), hd]
  refine ⟨by omega, (wf2_mono (fun x hx => eHas_zip x d.2.1 vs (by omega) hx) d.2.2).1 t4, h1, h2, fun q => by cases q⟩
theorem ok_base {T : List Dn} {nm r : Ob} {vs : List Ob} {e : Bds} (hp : obP r = false) (hd : dLk T nm = none) (h : FrOk T 0 (nm, r, vs, e, false)) : (4 ≤ kIx nm ∧ kIx nm ≤ 16) ∧ (vs.length : Int) = arB (kIx nm) := by
  obtain ⟨h1, h2, h3⟩ := h
  obtain ⟨h4, h5⟩ := h3 rfl
  simp only at h1 h2 h4 h5
  have hl := (obLen_np hp h1).2
  have ha : arT T nm = (vs.length : Int) := by omega
  unfold arT at ha
  split at ha
  · rename_i hk
    have hb := arB_in (kIx nm)
    refine ⟨⟨?_, hk⟩, ha.symm⟩
    by_cases q : kIx nm = 3
    · have e3 := (kIx_eq (x := nm) (k := 3) (by decide)).mp q
      rw [h5 e3, q] at ha
      exact absurd ha (by decide)
    · by_cases q2 : kIx nm < 3
      · have := hb.2.2 (by omega)
        omega
      · omega
  · rw [hd] at ha
    simp only at ha
    omega
section
variable {T : List Dn} {fu m md k nk : Nat} {x nm r : Ob} {e e1 : Bds} {S : List Fr} {vs : List Ob} {en : Bool}
theorem mRun_0 : mRun T fu (m + 1) 0 x e S k nk = if obV x then mRun T fu m 1 (eLk e x) [] S k nk else if obP x = false then mRun T fu m 1 x [] S k nk else if obCar x = oQuote then mRun T fu m 1 (obCar (obCdr x)) [] S k nk else if 300 ≤ S.length then (2, x, k, nk) else if fu ≤ k then (1, x, k, nk) else mRun T fu m 2 oNil [] ((obCar x, obCdr x, [], e, false) :: S) (k + 1) (max nk (S.length + 1)) := by rw [mRun]
theorem mRun_1n : mRun T fu (m + 1) 1 x e [] k nk = (0, x, k, nk) := by rw [mRun]
theorem mRun_1 : mRun T fu (m + 1) 1 x e ((nm, r, vs, e1, en) :: S) k nk = if en then mRun T fu m 1 x [] S k nk else if nm = yK 3 then mRun T fu m 0 (if x = oNil then obCar (obCdr r) else obCar r) e1 ((nm, r, vs, e1, true) :: S) k nk else mRun T fu m 2 oNil [] ((nm, r, vs ++ [x], e1, false) :: S) k nk := by rw [mRun]
theorem mRun_2 : mRun T fu (m + 1) 2 x e ((nm, r, vs, e1, en) :: S) k nk = if obP r then mRun T fu m 0 (obCar r) e1 ((nm, obCdr r, vs, e1, en) :: S) k nk else match dLk T nm with
      | some d => mRun T fu m 0 d.2.2 (zipE d.2.1 vs) ((nm, r, vs, e1, true) :: S) k nk
      | none => match baseF (kIx nm) (vs.getD 0 oNil) (vs.getD 1 oNil) with
        | some v => mRun T fu m 1 v [] S k nk
        | none => (3, oNil, k, nk) := by rw [mRun] <;> first | rfl | (intro h; cases h) | simp
end
theorem mRun_nk (T : List Dn) (fu : Nat) : ∀ (m md : Nat) (x : Ob) (e : Bds) (S : List Fr) (k nk : Nat), md ≤ 2 → (md = 2 → S ≠ []) → nk ≤ (mRun T fu m md x e S k nk).2.2.2 := by
  intro m
  induction m with
  | zero => intro md x e S k nk _ _; rw [mRun]; exact Nat.le_refl _
  | succ m ih =>
    intro md x e S k nk hm hS
    rcases md with _ | _ | _ | md
    · rw [mRun_0]
      split
      · exact ih _ _ _ _ _ _ (by decide) (fun h => by cases h)
      · split
        · exact ih _ _ _ _ _ _ (by decide) (fun h => by cases h)
        · split
          · exact ih _ _ _ _ _ _ (by decide) (fun h => by cases h)
          · split
            · exact Nat.le_refl _
            · split
              · exact Nat.le_refl _
              · exact Nat.le_trans (Nat.le_max_left _ _) (ih _ _ _ _ _ _ (by decide) (fun _ => by simp))
    · rcases S with _ | ⟨⟨nm, r, vs, e1, en⟩, S⟩
      · rw [mRun_1n]; exact Nat.le_refl _
      · rw [mRun_1]
        split
        · exact ih _ _ _ _ _ _ (by decide) (fun h => by cases h)
        · split
          · exact ih _ _ _ _ _ _ (by decide) (fun h => by cases h)
          · exact ih _ _ _ _ _ _ (by decide) (fun _ => by simp)
    · rcases S with _ | ⟨⟨nm, r, vs, e1, en⟩, S⟩
      · exact absurd rfl (hS rfl)
      · rw [mRun_2]
        split
        · exact ih _ _ _ _ _ _ (by decide) (fun h => by cases h)
        · split
          · exact ih _ _ _ _ _ _ (by decide) (fun h => by cases h)
          · split
            · exact ih _ _ _ _ _ _ (by decide) (fun h => by cases h)
            · exact Nat.le_refl _
    · omega
/-- how far the machine is from its end -/
def frPh (f : Fr) : Nat := if f.2.2.2.2 then 1 else 3 * (obLen f.2.1).toNat + 4
def frsPh : List Fr → Nat
  | [] => 0
  | f :: S => frPh f + frsPh S
theorem mRun_ends {T : List Dn} {fu : Nat} (hT : TOk T) : ∀ (m md : Nat) (x : Ob) (e : Bds) (S : List Fr) (k nk : Nat), ((md = 0 ∧ (wf2 T (eHas e) x).1 = true ∧ FrsOk T S) ∨ (md = 1 ∧ FrsOk T S) ∨ (md = 2 ∧ ∃ f S', S = f :: S' ∧ f.2.2.2.2 = false ∧ FrOk T 0 f ∧ FrsOk T S')) → 25 * (fu - k) + frsPh S + (2 - md) < m → (mRun T fu m md x e S k nk).1 ≠ 9 := by
  intro m
  induction m with
  | zero => intro md x e S k nk _ h; omega
  | succ m ih =>
    intro md x e S k nk hok hm
    rcases hok with ⟨rfl, h1, h2⟩ | ⟨rfl, h2⟩ | ⟨rfl, ⟨nm, r, vs, e1, en⟩, S', rfl, h3, h1, h2⟩
    · rw [mRun_0]
      split
      · exact ih _ _ _ _ _ _ (Or.inr (Or.inl ⟨rfl, h2⟩)) (by omega)
      · split
        · exact ih _ _ _ _ _ _ (Or.inr (Or.inl ⟨rfl, h2⟩)) (by omega)
        · split
          · exact ih _ _ _ _ _ _ (Or.inr (Or.inl ⟨rfl, h2⟩)) (by omega)
          · rename_i hp hq
            split
            · show (2 : Nat) ≠ 9; decide
            · split
              · show (1 : Nat) ≠ 9; decide
              · rename_i hk
                have hp' : obP x = true := by cases hb : obP x <;> simp_all
                have ho := ok_push (S := S) hp' hq h1
                refine ih _ _ _ _ _ _ (Or.inr (Or.inr ⟨rfl, _, _, rfl, rfl, ho, h2⟩)) ?_
                have hl := (ho.2.2 rfl).1
                have h6 := arT_le hT (obCar x)
                simp only [List.length_nil] at hl
                simp only [frsPh, frPh]
                have : (obLen (obCdr x)).toNat ≤ 6 := by omega
                simp
                omega
    · rcases S with _ | ⟨⟨nm, r, vs, e1, en⟩, S⟩
      · rw [mRun_1n]; show (0 : Nat) ≠ 9; decide
      · rw [mRun_1]
        simp only [frsPh, frPh] at hm
        split
        · rename_i he
          rw [if_pos he] at hm
          exact ih _ _ _ _ _ _ (Or.inr (Or.inl ⟨rfl, h2.2⟩)) (by omega)
        · rename_i he
          have he' : en = false := by cases en <;> simp_all
          subst he'
          rw [if_neg (by decide)] at hm
          split
          · rename_i hn
            subst hn
            have ho := ok_if (x := x) h2.1
            refine ih _ _ _ _ _ _ (Or.inl ⟨rfl, ho.1, ho.2, h2.2⟩) ?_
            simp only [frsPh, frPh]
            simp
            omega
          · rename_i hn
            have ho := ok_add (x := x) hT hn h2.1
            refine ih _ _ _ _ _ _ (Or.inr (Or.inr ⟨rfl, _, _, rfl, rfl, ho.1, h2.2⟩)) ?_
            simp only [frsPh, frPh]
            simp
            omega
    · simp only at h3
      subst h3
      rw [mRun_2]
      simp only [frsPh, frPh] at hm
      rw [if_neg (by decide)] at hm
      split
      · rename_i hp
        have ho := ok_arg hp h1
        refine ih _ _ _ _ _ _ (Or.inl ⟨rfl, ho.1, ho.2, h2⟩) ?_
        have := obLen_cdr hp h1.1
        have h0 := h1.1
        simp only at this h0
        simp only [frsPh, frPh]
        simp
        omega
      · rename_i hp
        have hp' : obP r = false := by cases hb : obP r <;> simp_all
        split
        · rename_i d hd
          have ho := ok_body hT hp' hd h1
          refine ih _ _ _ _ _ _ (Or.inl ⟨rfl, ho.2.1, ho.2.2, h2⟩) ?_
          simp only [frsPh, frPh]
          simp
          omega
        · split
          · refine ih _ _ _ _ _ _ (Or.inr (Or.inl ⟨rfl, h2⟩)) ?_
            omega
          · show (3 : Nat) ≠ 9; decide

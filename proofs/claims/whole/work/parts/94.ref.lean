/-! PLAIN TERMS: the reference keeps them -/
def plD (d : Dn) : Dn := (d.1, d.2.1, (pl2 d.2.2).1)
def plT (T : List Dn) : List Dn := T.map plD
theorem plT_len (T : List Dn) : (plT T).length = T.length := by simp [plT]
theorem plT_lk (T : List Dn) (x : Ob) : dLk (plT T) x = (dLk T x).map plD := by
  induction T with
  | nil => rfl
  | cons d T ih =>
    show dLk (plD d :: plT T) x = _
    simp only [dLk]
    rw [show (plD d).1 = d.1 from rfl]
    split
    · rfl
    · exact ih
theorem plT_ar (T : List Dn) (x : Ob) : arT (plT T) x = arT T x := by
  unfold arT
  rw [plT_lk]
  cases dLk T x <;> rfl
theorem wf2_plT (T : List Dn) (vs : Ob → Bool) : ∀ x : Ob, wf2 (plT T) vs x = wf2 T vs x := by
  intro x
  induction x with
  | add a b ha hb => simp only [wf2, plT_ar, ha, hb]
  | _ => rfl
theorem ar_q (T : List Dn) : arT T oQuote = -1 := by
  unfold arT
  rw [show kIx oQuote = 2 from kIx_k 2 (by decide), if_pos (by decide)]
  rfl
theorem pl2_np {r : Ob} (h : obP r = false) : pl2 r = (r, r) := by cases r <;> first | rfl | cases h
theorem pl2_pp {r : Ob} (h : obP r = true) : obP (pl2 r).2 = true ∧ obCar (pl2 r).2 = (pl2 (obCar r)).1 ∧ obCdr (pl2 r).2 = (pl2 (obCdr r)).2 := by
  cases r with
  | add a b => exact ⟨rfl, rfl, rfl⟩
  | _ => cases h
theorem pl2_oP (r : Ob) : obP (pl2 r).2 = obP r := by cases r <;> rfl
theorem pl2_len : ∀ r : Ob, obLen (pl2 r).2 = obLen r := by
  intro r
  induction r with
  | add a b ha hb => simp only [pl2, obLen, hb]
  | _ => rfl
theorem isPc_v {x : Ob} (h : isPc x = true) : obV x = false ∧ obP x = false := by
  unfold isPc at h
  simp only [Bool.or_eq_true, decide_eq_true_eq] at h
  rcases h with h | rfl | rfl
  · cases x <;> first | exact ⟨rfl, rfl⟩ | cases h
  · exact ⟨by decide +kernel, rfl⟩
  · exact ⟨by decide +kernel, rfl⟩
theorem wf_nq {T : List Dn} {vs : Ob → Bool} {a b : Ob} (h : (wf2 T vs (.add a b)).1 = true) (hq : obQ (.add a b) = false) : a ≠ oQuote ∧ (0 ≤ arT T a ∧ arT T a = obLen b) ∧ (wf2 T vs b).2 = true := by
  simp only [wf2, hq, Bool.false_or, Bool.and_eq_true, decide_eq_true_eq] at h
  refine ⟨fun e => ?_, h.1, h.2⟩
  have := h.1.1
  rw [e, ar_q] at this
  omega
theorem obQ_f {a b : Ob} (h : a ≠ oQuote) : obQ (.add a b) = false := by
  unfold obQ
  rw [show obCar (.add a b) = a from rfl, decide_eq_false (p := a = oQuote) h]
  rfl
theorem pl2_nq {a b : Ob} (hq : obQ (.add a b) = false) : (pl2 (.add a b)).1 = .add a (pl2 b).2 := by
  simp only [pl2, hq]; rfl
theorem pl2_qq {a b : Ob} (hq : obQ (.add a b) = true) : (isPc (obCar b) = true ∧ (pl2 (.add a b)).1 = obCar b) ∨ (pl2 (.add a b)).1 = .add a b := by
  simp only [pl2, hq, if_true]
  by_cases h : isPc (obCar b) = true
  · left; rw [if_pos h]; exact ⟨h, rfl⟩
  · right; rw [if_neg h]
theorem at_wf {T : List Dn} {vs : Ob → Bool} {x : Ob} (hp : obP x = false) : (wf2 T vs x).1 = (if obV x then vs x else true) := by cases x <;> first | rfl | cases hp
theorem at_vr {vs : Ob → Bool} {x : Ob} (hp : obP x = false) : (vr2 vs x).1 = (if obV x then vs x else true) := by cases x <;> first | rfl | cases hp
theorem at_cl {N : Ob} {x : Ob} (hp : obP x = false) : (cl2 N x).1 = false := by cases x <;> first | rfl | cases hp
theorem pl2_wf (T : List Dn) (vs : Ob → Bool) : ∀ x : Ob, ((wf2 T vs x).1 = true → (wf2 T vs (pl2 x).1).1 = true) ∧ ((wf2 T vs x).2 = true → (wf2 T vs (pl2 x).2).2 = true) := by
  intro x
  induction x with
  | add a b ha hb =>
    constructor
    · intro h
      cases hq : obQ (.add a b) with
      | true =>
        rcases pl2_qq hq with ⟨h1, h2⟩ | h2
        · rw [h2, at_wf (isPc_v h1).2, (isPc_v h1).1]; rfl
        · rw [h2]; exact h
      | false =>
        obtain ⟨h1, h2, h3⟩ := wf_nq h hq
        rw [pl2_nq hq]
        simp only [wf2]
        rw [pl2_len, decide_eq_true (p := 0 ≤ arT T a ∧ arT T a = obLen b) h2, hb.2 h3]
        simp
    · intro h
      simp only [wf2, Bool.and_eq_true] at h
      simp only [pl2, wf2, ha.1 h.1, hb.2 h.2, Bool.and_self]
  | _ => exact ⟨fun h => h, fun h => h⟩
theorem pl2_vr (T : List Dn) (ws vs : Ob → Bool) : ∀ x : Ob, ((wf2 T ws x).1 = true → (vr2 vs (pl2 x).1).1 = (vr2 vs x).1) ∧ ((wf2 T ws x).2 = true → (vr2 vs (pl2 x).2).2 = (vr2 vs x).2) := by
  intro x
  induction x with
  | add a b ha hb =>
    constructor
    · intro h
      cases hq : obQ (.add a b) with
      | true =>
        rcases pl2_qq hq with ⟨h1, h2⟩ | h2
        · rw [h2, at_vr (isPc_v h1).2, (isPc_v h1).1]; simp only [vr2, hq]; rfl
        · rw [h2]
      | false =>
        obtain ⟨h1, h2, h3⟩ := wf_nq h hq
        rw [pl2_nq hq]
        simp only [vr2, hq, obQ_f h1, hb.2 h3]
    · intro h
      simp only [wf2, Bool.and_eq_true] at h
      simp only [pl2, vr2, ha.1 h.1, hb.2 h.2]
  | _ => exact ⟨fun h => rfl, fun h => rfl⟩
theorem pl2_cl (T : List Dn) (ws : Ob → Bool) (N : Ob) : ∀ x : Ob, ((wf2 T ws x).1 = true → (cl2 N (pl2 x).1).1 = (cl2 N x).1) ∧ ((wf2 T ws x).2 = true → (cl2 N (pl2 x).2).2 = (cl2 N x).2) := by
  intro x
  induction x with
  | add a b ha hb =>
    constructor
    · intro h
      cases hq : obQ (.add a b) with
      | true =>
        rcases pl2_qq hq with ⟨h1, h2⟩ | h2
        · rw [h2, at_cl (isPc_v h1).2]; simp only [cl2, hq]; rfl
        · rw [h2]
      | false =>
        obtain ⟨h1, h2, h3⟩ := wf_nq h hq
        rw [pl2_nq hq]
        simp only [cl2, hq, obQ_f h1, hb.2 h3]
    · intro h
      simp only [wf2, Bool.and_eq_true] at h
      simp only [pl2, cl2, ha.1 h.1, hb.2 h.2]
  | _ => exact ⟨fun h => rfl, fun h => rfl⟩
theorem wf_vr (T : List Dn) (vs : Ob → Bool) : ∀ x : Ob, (wf2 T vs x).1 = ((wf2 T va1 x).1 && (vr2 vs x).1) ∧ (wf2 T vs x).2 = ((wf2 T va1 x).2 && (vr2 vs x).2) := by
  intro x
  induction x with
  | add a b ha hb =>
    simp only [wf2, vr2, ha.1, ha.2, hb.1, hb.2]
    constructor
    · cases obQ (.add a b) <;> cases decide (0 ≤ arT T a ∧ arT T a = obLen b) <;> cases (wf2 T va1 b).2 <;> cases (vr2 vs b).2 <;> rfl
    · cases (wf2 T va1 a).1 <;> cases (wf2 T va1 b).2 <;> cases (vr2 vs a).1 <;> cases (vr2 vs b).2 <;> rfl
  | _ =>
    simp only [wf2, vr2, va1]
    constructor
    · split <;> simp
    · rfl
/-- a term with these variables: what the reference asks in two steps -/
theorem isTm_two (T : List Dn) (vs : Ob → Bool) (x : Ob) : isTm T vs x = (isTm T va1 x && (vr2 vs x).1) := by
  unfold isTm
  rw [(wf_vr T vs x).1]
  cases (wf2 T va1 x).1 <;> cases (vr2 vs x).1 <;> cases decide ((sz2 x).1 ≤ 120) <;> rfl
theorem isTm_plT (T : List Dn) (vs : Ob → Bool) (x : Ob) : isTm (plT T) vs x = isTm T vs x := by unfold isTm; rw [wf2_plT]
theorem isTm_wf {T : List Dn} {vs : Ob → Bool} {x : Ob} (h : isTm T vs x = true) : (wf2 T vs x).1 = true := by
  unfold isTm at h
  rw [Bool.and_eq_true] at h
  exact h.1
/-- what the reference finds out about a term -/
theorem isTm_ref (T : List Dn) (vs : Ob → Bool) (x : Ob) (h : isTm T va1 x = true) : isTm T vs x = (vr2 vs (pl2 x).1).1 := by
  rw [isTm_two, h, Bool.true_and, (pl2_vr T va1 vs x).1 (isTm_wf h)]
theorem TOk.pl {T : List Dn} (h : TOk T) : TOk (plT T) := by
  intro d hd
  unfold plT at hd
  obtain ⟨q, hq, rfl⟩ := List.mem_map.mp hd
  obtain ⟨h1, h2, h3, h4⟩ := h q hq
  refine ⟨h1, h2, h3, ?_⟩
  rw [wf2_plT]
  exact (pl2_wf T _ _).1 h4
theorem TNs.pl {T : List Dn} (h : TNs T) : TNs (plT T) := by
  intro d hd
  unfold plT at hd
  obtain ⟨q, hq, rfl⟩ := List.mem_map.mp hd
  exact h q hq
/-- two runs that are told alike -/
def rnE (R R' : Nat × Ob × Nat × Nat) : Prop := R'.1 = R.1 ∧ R'.2.2 = R.2.2 ∧ (R.1 = 0 → R'.2.1 = R.2.1)
def plF (f : Fr) : Fr := (f.1, (pl2 f.2.1).2, f.2.2)
theorem pl_run {T : List Dn} {fu : Nat} (hT : TOk T) : ∀ (m md : Nat) (x : Ob) (e : Bds) (S : List Fr) (k nk : Nat), ((md = 0 ∧ (wf2 T (eHas e) x).1 = true ∧ FrsOk T S) ∨ (md = 1 ∧ FrsOk T S) ∨ (md = 2 ∧ ∃ f S', S = f :: S' ∧ f.2.2.2.2 = false ∧ FrOk T 0 f ∧ FrsOk T S')) → rnE (mRun T fu m md x e S k nk) (mRun (plT T) fu m md (if md = 0 then (pl2 x).1 else x) e (S.map plF) k nk) := by
  intro m
  induction m with
  | zero =>
    intro md x e S k nk _
    rw [mRun, mRun]
    exact ⟨rfl, rfl, fun h => by cases h⟩
  | succ m ih =>
    intro md x e S k nk hok
    rcases hok with ⟨rfl, h1, h2⟩ | ⟨rfl, h2⟩ | ⟨rfl, ⟨nm, r, vs, e1, en⟩, S', rfl, h3, h1, h2⟩
    · rw [if_pos rfl]
      cases hp : obP x with
      | false =>
        rw [pl2_np hp, mRun_0, mRun_0]
        by_cases hv : obV x = true
        · rw [if_pos hv, if_pos hv]
          exact ih 1 _ _ _ _ _ (Or.inr (Or.inl ⟨rfl, h2⟩))
        · rw [if_neg hv, if_neg hv, if_pos hp, if_pos hp]
          exact ih 1 _ _ _ _ _ (Or.inr (Or.inl ⟨rfl, h2⟩))
      | true =>
        cases x with
        | add a b =>
          have hv : obV (.add a b) = false := rfl
          cases hq : obQ (.add a b) with
          | true =>
            have hq2 := hq
            unfold obQ at hq2
            simp only [Bool.and_eq_true, decide_eq_true_eq] at hq2
            have hstep : ∀ T', mRun T' fu (m + 1) 0 (.add a b) e (S.map plF) k nk = mRun T' fu m 1 (obCar b) [] (S.map plF) k nk := by
              intro T'
              rw [mRun_0, if_neg (by rw [hv]; decide), if_neg (by rw [hp]; decide), if_pos hq2.1]
              rfl
            rw [mRun_0, if_neg (by rw [hv]; decide), if_neg (by rw [hp]; decide), if_pos hq2.1]
            have hh := ih 1 (obCar b) [] S k nk (Or.inr (Or.inl ⟨rfl, h2⟩))
            rw [if_neg (by decide)] at hh
            rcases pl2_qq hq with ⟨g1, g2⟩ | g2
            · rw [g2, mRun_0 (x := obCar b), if_neg (by rw [(isPc_v g1).1]; decide), if_pos (isPc_v g1).2]
              exact hh
            · rw [g2, hstep]
              exact hh
          | false =>
            obtain ⟨g1, g2, g3⟩ := wf_nq h1 hq
            rw [pl2_nq hq, mRun_0, mRun_0, if_neg (by rw [hv]; decide), if_neg (by rw [hp]; decide), if_neg (c := obCar (.add a b) = oQuote) g1]
            rw [if_neg (c := obV (.add a (pl2 b).2) = true) (by show ¬ (false = true); decide), if_neg (c := obP (.add a (pl2 b).2) = false) (by show ¬ (true = false); decide), if_neg (c := obCar (.add a (pl2 b).2) = oQuote) g1, List.length_map]
            by_cases c1 : 300 ≤ S.length
            · rw [if_pos c1, if_pos c1]; exact ⟨rfl, rfl, fun h => by cases h⟩
            · rw [if_neg c1, if_neg c1]
              by_cases c2 : fu ≤ k
              · rw [if_pos c2, if_pos c2]; exact ⟨rfl, rfl, fun h => by cases h⟩
              · rw [if_neg c2, if_neg c2]
                exact ih 2 _ _ (_ :: S) _ _ (Or.inr (Or.inr ⟨rfl, _, _, rfl, rfl, ok_push (S := S) hp g1 h1, h2⟩))
        | _ => cases hp
    · rw [if_neg (by decide)]
      rcases S with _ | ⟨⟨nm, r, vs, e1, en⟩, S⟩
      · rw [List.map_nil, mRun_1n, mRun_1n]; exact ⟨rfl, rfl, fun _ => rfl⟩
      · rw [List.map_cons, show plF (nm, r, vs, e1, en) = (nm, (pl2 r).2, vs, e1, en) from rfl, mRun_1, mRun_1]
        cases en with
        | true => rw [if_pos rfl, if_pos rfl]; exact ih 1 _ _ _ _ _ (Or.inr (Or.inl ⟨rfl, h2.2⟩))
        | false =>
          rw [if_neg (c := (false = true)) (by decide), if_neg (c := (false = true)) (by decide)]
          by_cases hn : nm = yK 3
          · subst hn
            rw [if_pos rfl, if_pos rfl]
            have ho := ok_if (x := x) h2.1
            have hl := (h2.1.2.2 rfl)
            simp only at hl
            have h6 : obLen r = 2 := by
              have h4 := hl.1
              rw [hl.2 trivial, show arT T (yK 3) = 3 from by unfold arT; rw [if_pos (by rw [kIx_k 3 (by decide)]; decide), kIx_k 3 (by decide)]; rfl] at h4
              simp only [List.length_nil] at h4
              omega
            have hp := obLen_pos (x := r) (by omega)
            have hp2 := obLen_pos (x := obCdr r) (by have := obLen_cdr hp (by omega); omega)
            obtain ⟨-, q1, q2⟩ := pl2_pp hp
            obtain ⟨-, q3, q4⟩ := pl2_pp hp2
            rw [q2, q3, q1]
            have hh := ih 0 _ _ (_ :: S) k nk (Or.inl ⟨rfl, ho.1, ho.2, h2.2⟩)
            rw [if_pos rfl] at hh
            rw [show (if x = oNil then (pl2 (obCar (obCdr r))).1 else (pl2 (obCar r)).1) = (pl2 (if x = oNil then obCar (obCdr r) else obCar r)).1 by split <;> rfl]
            exact hh
          · rw [if_neg hn, if_neg hn]
            have ho := ok_add (x := x) hT hn h2.1
            exact ih 2 _ _ (_ :: S) _ _ (Or.inr (Or.inr ⟨rfl, _, _, rfl, rfl, ho.1, h2.2⟩))
    · simp only at h3
      subst h3
      rw [if_neg (by decide), List.map_cons, show plF (nm, r, vs, e1, false) = (nm, (pl2 r).2, vs, e1, false) from rfl, mRun_2, mRun_2, pl2_oP]
      cases hp : obP r with
      | true =>
        rw [if_pos rfl, if_pos rfl]
        have ho := ok_arg hp h1
        have hh := ih 0 _ _ (_ :: S') k nk (Or.inl ⟨rfl, ho.1, ho.2, h2⟩)
        rw [if_pos rfl] at hh
        obtain ⟨-, q1, q2⟩ := pl2_pp hp
        rw [q1, q2]
        exact hh
      | false =>
        rw [if_neg (c := (false = true)) (by decide), if_neg (c := (false = true)) (by decide), plT_lk]
        cases hd : dLk T nm with
        | some d =>
          have ho := ok_body hT hp hd h1
          have hh := ih 0 _ _ (_ :: S') k nk (Or.inl ⟨rfl, ho.2.1, ho.2.2, h2⟩)
          rw [if_pos rfl] at hh
          exact hh
        | none =>
          show rnE (match baseF (kIx nm) (vs.getD 0 oNil) (vs.getD 1 oNil) with | some v => _ | none => _) (match baseF (kIx nm) (vs.getD 0 oNil) (vs.getD 1 oNil) with | some v => _ | none => _)
          cases baseF (kIx nm) (vs.getD 0 oNil) (vs.getD 1 oNil) with
          | some v => exact ih 1 _ _ _ _ _ (Or.inr (Or.inl ⟨rfl, h2⟩))
          | none => exact ⟨rfl, rfl, fun h => by cases h⟩

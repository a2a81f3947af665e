/-! THE REFERENCE EVALUATES -/
abbrev evX (x : Nat → Int) (n s st ev vs li wy dn vl : Int) : Nat → Int := va_up (va_up (va_up (va_up (va_up (va_up (va_up (va_up (va_up x 7 n) 10 s) 40 st) 61 ev) 63 vs) 64 li) 65 wy) 66 dn) 67 vl
def EvA (g : pw_P) (w : pw_W) (B : Nat → Nat) (g1 g2 g3 g4 g5 g6 fv : Int → Int) : Prop := w 1056 = (B 55, some (AI g 300 g1)) ∧ w 1057 = (B 56, some (AI g 300 g2)) ∧ w 1058 = (B 57, some (AI g 300 g3)) ∧ w 1059 = (B 58, some (AI g 300 g4)) ∧ w 1060 = (B 59, some (AI g 300 g5)) ∧ w 1061 = (B 60, some (AZ g 300 g6)) ∧ w 1063 = (B 62, some (AI g 2400 fv)) ∧ (∀ j, inI (g1 j)) ∧ (∀ j, inI (g2 j)) ∧ (∀ j, inI (g3 j)) ∧ (∀ j, inI (g4 j)) ∧ (∀ j, inI (g5 j)) ∧ (∀ j, inI (g6 j)) ∧ (∀ j, inI (fv j))
theorem EvA.same {g : pw_P} {w w' : pw_W} {B : Nat → Nat} {g1 g2 g3 g4 g5 g6 fv : Int → Int} (h : EvA g w B g1 g2 g3 g4 g5 g6 fv) (hf : ∀ k, (1056 ≤ k ∧ k ≤ 1063 ∧ k ≠ 1062) → w' k = w k) : EvA g w' B g1 g2 g3 g4 g5 g6 fv := ⟨(hf _ (by omega)).trans h.1, (hf _ (by omega)).trans h.2.1, (hf _ (by omega)).trans h.2.2.1, (hf _ (by omega)).trans h.2.2.2.1, (hf _ (by omega)).trans h.2.2.2.2.1, (hf _ (by omega)).trans h.2.2.2.2.2.1, (hf _ (by omega)).trans h.2.2.2.2.2.2.1, h.2.2.2.2.2.2.2⟩
def vsS : List Fr → Nat
  | [] => 0
  | f :: S => f.2.2.1.length + vsS S
def neS : List Fr → Nat
  | [] => 0
  | f :: S => (if f.2.2.2.2 then 0 else 1) + neS S
/-- where a term's variables have their values -/
def ScM (t : Int → Ob) (n : Int) (T : List Dn) (be : Bds) (fv : Int → Int) (d ba : Int) (e : Bds) (bd : Nat) : Prop :=
  (d = -1 ∧ e = be) ∨ ∃ (i : Nat) (D : Dn) (us : List Ob) (bn : Nat), d = (i : Int) ∧ T[i]? = some D ∧ e = zipE D.2.1 us ∧ obLen D.2.1 = (us.length : Int) ∧ ba = (bn : Int) ∧ VlsI t n fv (bn : Int) us ∧ bn + us.length ≤ bd
def FvM (t : Int → Ob) (n : Int) (T : List Dn) (be : Bds) (g1 g2 g3 g4 g5 g6 fv : Int → Int) : Nat → List Fr → Prop
  | _, [] => True
  | aw, (nm, r, vs, e, en) :: S => (∃ X0, Vl t n (g1 ((S.length : Nat) : Int)) X0 ∧ obP X0 = true ∧ obCar X0 = nm ∧ (en = false → r = cdN (vs.length + aw) (obCdr X0))) ∧ Vl t n (g2 ((S.length : Nat) : Int)) r ∧ g3 ((S.length : Nat) : Int) = ((vsS S : Nat) : Int) ∧ ScM t n T be fv (g4 ((S.length : Nat) : Int)) (g5 ((S.length : Nat) : Int)) e (vsS S) ∧ g6 ((S.length : Nat) : Int) = b2i en ∧ VlsI t n fv ((vsS S : Nat) : Int) vs ∧ vs.length ≤ 6 ∧ FvM t n T be g1 g2 g3 g4 g5 g6 fv 1 S
theorem VlsI.cg {t : Int → Ob} {n : Int} {f f' : Int → Int} : ∀ {i : Int} {vs : List Ob}, VlsI t n f i vs → (∀ j : Int, i ≤ j → j < i + vs.length → f' j = f j) → VlsI t n f' i vs
  | _, [], _, _ => trivial
  | i, _ :: vs, h, hf => by
    simp only [List.length_cons] at hf
    exact ⟨by rw [hf i (by omega) (by omega)]; exact h.1, VlsI.cg h.2 (fun j j0 j1 => hf j (by omega) (by omega))⟩
theorem ScM.keep {t t' : Int → Ob} {n n' : Int} {T : List Dn} {be : Bds} {fv fv' : Int → Int} {d ba : Int} {e : Bds} {bd bd' : Nat} (h : ScM t n T be fv d ba e bd) (he : Ext t n t' n') (hf : ∀ j : Int, 0 ≤ j → j < (bd : Int) → fv' j = fv j) (hb : bd ≤ bd') : ScM t' n' T be fv' d ba e bd' := by
  rcases h with h | ⟨i, D, us, bn, h1, h2, h3, h4, h5, h6, h7⟩
  · exact Or.inl h
  · exact Or.inr ⟨i, D, us, bn, h1, h2, h3, h4, h5, (h6.ext he).cg (fun j j0 j1 => hf j (by omega) (by omega)), by omega⟩
theorem FvM.keep {t t' : Int → Ob} {n n' : Int} {T : List Dn} {be : Bds} {g1 g2 g3 g4 g5 g6 fv h1 h2 h3 h4 h5 h6 fv' : Int → Int} (he : Ext t n t' n') : ∀ {aw : Nat} {S : List Fr}, FvM t n T be g1 g2 g3 g4 g5 g6 fv aw S → (∀ j : Int, 0 ≤ j → j < S.length → h1 j = g1 j ∧ h2 j = g2 j ∧ h3 j = g3 j ∧ h4 j = g4 j ∧ h5 j = g5 j ∧ h6 j = g6 j) → (∀ j : Int, 0 ≤ j → j < vsS S → fv' j = fv j) → FvM t' n' T be h1 h2 h3 h4 h5 h6 fv' aw S
  | _, [], _, _, _ => trivial
  | aw, (nm, r, vs, e, en) :: S, h, hk, hv => by
    obtain ⟨k1, k2, k3, k4, k5, k6⟩ := hk ((S.length : Nat) : Int) (by omega) (by simp only [List.length_cons]; omega)
    obtain ⟨⟨X0, a1, a2⟩, a3, a4, a5, a6, a7, a8, a9⟩ := h
    simp only [vsS] at hv
    refine ⟨⟨X0, by rw [k1]; exact a1.ext he, a2⟩, by rw [k2]; exact a3.ext he, by rw [k3]; exact a4, by rw [k4, k5]; exact a5.keep he (fun j j0 j1 => hv j j0 (by omega)) (Nat.le_refl _), by rw [k6]; exact a6, (a7.ext he).cg (fun j j0 j1 => hv j (by omega) (by omega)), a8, a9.keep he (fun j j0 j1 => hk j j0 (by simp only [List.length_cons]; omega)) (fun j j0 j1 => hv j j0 (by omega))⟩
theorem FvM.v6 {t : Int → Ob} {n : Int} {T : List Dn} {be : Bds} {g1 g2 g3 g4 g5 g6 fv : Int → Int} : ∀ {aw : Nat} {S : List Fr}, FvM t n T be g1 g2 g3 g4 g5 g6 fv aw S → vsS S ≤ 6 * S.length
  | _, [], _ => Nat.le_refl _
  | _, (nm, r, vs, e, en) :: S, h => by
    have h8 := FvM.v6 h.2.2.2.2.2.2.2
    have h7 := h.2.2.2.2.2.2.1
    simp only [vsS, List.length_cons]
    omega
/-- the bindings of the outermost term -/
def BdM (g : pw_P) (w : pw_W) (B : Nat → Nat) (t : Int → Ob) (n : Int) (be : Bds) : Prop :=
  ∃ f1 f2 : Int → Int, w 1053 = (B 52, some (AI g 1000 f1)) ∧ w 1054 = (B 53, some (AI g 1000 f2)) ∧ (∀ j, inI (f1 j)) ∧ (∀ j, inI (f2 j)) ∧ VlsI t n f1 0 (be.map Prod.fst) ∧ VlsI t n f2 0 (be.map Prod.snd) ∧ be.length ≤ 1000
theorem BdM.same {g : pw_P} {w w' : pw_W} {B : Nat → Nat} {t t' : Int → Ob} {n n' : Int} {be : Bds} (h : BdM g w B t n be) (hf : ∀ k, (1053 ≤ k ∧ k ≤ 1054) → w' k = w k) (he : Ext t n t' n') : BdM g w' B t' n' be := by
  obtain ⟨f1, f2, a1, a2, a3, a4, a5, a6, a7⟩ := h
  exact ⟨f1, f2, (hf _ (by omega)).trans a1, (hf _ (by omega)).trans a2, a3, a4, a5.ext he, a6.ext he, a7⟩
/-- the evaluator of the reference at work -/
def EvM (g : pw_P) (w : pw_W) (b : Nat) (B : Nat → Nat) (x : Nat → Int) (T : List Dn) (be : Bds) (fu : Nat) (NB : Int) (s0 aw : Nat) (S : List Fr) (k : Nat) (wy dn vl li : Int) (t : Int → Ob) (n : Int) (sN : Nat) (fZ g1 g2 g3 g4 g5 g6 fv : Int → Int) : Prop :=
  w 1000 = (b, some (mdE B (evX x n ((sN : Nat) : Int) ((k : Nat) : Int) ((S.length : Nat) : Int) ((vsS S : Nat) : Int) li wy dn vl))) ∧ RS g w B t n sN fZ ∧ RK t n ∧ MdD g w B t n T ∧ BdM g w B t n be ∧ EvA g w B g1 g2 g3 g4 g5 g6 fv ∧ FvM t n T be g1 g2 g3 g4 g5 g6 fv aw S ∧ (S.length ≤ 300 ∧ k ≤ fu) ∧ n + ((fu : Int) - k) + neS S ≤ NB ∧ sN ≤ s0
section
variable {g : pw_P} {w w' : pw_W} {b : Nat} {B : Nat → Nat} {x : Nat → Int} {T : List Dn} {be : Bds} {fu : Nat} {NB : Int} {s0 aw : Nat} {S : List Fr} {k : Nat} {wy dn vl li : Int} {t : Int → Ob} {n : Int} {sN : Nat} {fZ g1 g2 g3 g4 g5 g6 fv : Int → Int}
theorem EvM.cell {wy' dn' vl' li' : Int} (h : EvM g w b B x T be fu NB s0 aw S k wy dn vl li t n sN fZ g1 g2 g3 g4 g5 g6 fv) (hc : w' 1000 = (b, some (mdE B (evX x n ((sN : Nat) : Int) ((k : Nat) : Int) ((S.length : Nat) : Int) ((vsS S : Nat) : Int) li' wy' dn' vl')))) (hf : ∀ k, k ≠ 1000 → w' k = w k) : EvM g w' b B x T be fu NB s0 aw S k wy' dn' vl' li' t n sN fZ g1 g2 g3 g4 g5 g6 fv := by
  obtain ⟨a1, a2, a3, a4, a5, a6, a7⟩ := h
  exact ⟨hc, a2.same (fun k hk => hf k (by omega)), a3, a4.same (fun k hk => hf k (by omega)) Ext.rf, a5.same (fun k hk => hf k (by omega)) Ext.rf, a6.same (fun k hk => hf k (by omega)), a7⟩
theorem EvM.push {X : Ob} {e : Bds} {d ba o y li' vl' : Int} (h : EvM g w b B x T be fu NB s0 1 S k wy dn vl li t n sN fZ g1 g2 g3 g4 g5 g6 fv) (hX : Vl t n o X) (hp : obP X = true) (hy : Vl t n y (obCdr X)) (hs : ScM t n T be fv d ba e (vsS S)) (hl : S.length < 300) (hk : k < fu) (hd : inI d ∧ inI ba)
    (hc : w' 1000 = (b, some (mdE B (evX x n ((sN : Nat) : Int) (((k : Nat) : Int) + 1) (((S.length : Nat) : Int) + 1) ((vsS S : Nat) : Int) li' 0 0 vl')))) (e1 : w' 1056 = (B 55, some (AI g 300 (upz g1 ((S.length : Nat) : Int) o)))) (e2 : w' 1057 = (B 56, some (AI g 300 (upz g2 ((S.length : Nat) : Int) y)))) (e3 : w' 1058 = (B 57, some (AI g 300 (upz g3 ((S.length : Nat) : Int) ((vsS S : Nat) : Int))))) (e4 : w' 1059 = (B 58, some (AI g 300 (upz g4 ((S.length : Nat) : Int) d)))) (e5 : w' 1060 = (B 59, some (AI g 300 (upz g5 ((S.length : Nat) : Int) ba)))) (e6 : w' 1061 = (B 60, some (AZ g 300 (upz g6 ((S.length : Nat) : Int) 0)))) (hf : ∀ k, (k < 1000 ∨ (1000 < k ∧ k < 1056) ∨ 1061 < k) → w' k = w k) :
    EvM g w' b B x T be fu NB s0 0 ((obCar X, obCdr X, [], e, false) :: S) (k + 1) 0 0 vl' li' t n sN fZ (upz g1 ((S.length : Nat) : Int) o) (upz g2 ((S.length : Nat) : Int) y) (upz g3 ((S.length : Nat) : Int) ((vsS S : Nat) : Int)) (upz g4 ((S.length : Nat) : Int) d) (upz g5 ((S.length : Nat) : Int) ba) (upz g6 ((S.length : Nat) : Int) 0) fv := by
  obtain ⟨a1, a2, a3, a4, a5, a6, a7, a8, a9, a10⟩ := h
  have hn := a2.n
  have hv6 : ((vsS S : Nat) : Int) ≤ 1800 := by
    have := a7.v6
    omega
  refine ⟨hc.trans (by simp [vsS]), a2.same (fun k hk => hf k (by omega)), a3, a4.same (fun k hk => hf k (by omega)) Ext.rf, a5.same (fun k hk => hf k (by omega)) Ext.rf, ⟨e1, e2, e3, e4, e5, e6, (hf _ (by omega)).trans a6.2.2.2.2.2.2.1, upz_inI a6.2.2.2.2.2.2.2.1 (by have := hX.1; have := hX.2.1; omega), upz_inI a6.2.2.2.2.2.2.2.2.1 (by have := hy.1; have := hy.2.1; omega), upz_inI a6.2.2.2.2.2.2.2.2.2.1 (by omega), upz_inI a6.2.2.2.2.2.2.2.2.2.2.1 hd.1, upz_inI a6.2.2.2.2.2.2.2.2.2.2.2.1 hd.2, upz_inI a6.2.2.2.2.2.2.2.2.2.2.2.2.1 (by omega), a6.2.2.2.2.2.2.2.2.2.2.2.2.2⟩, ?_, ⟨by simp only [List.length_cons]; omega, by omega⟩, ?_, a10⟩
  · refine ⟨⟨X, by rw [upz_self]; exact hX, hp, rfl, fun _ => rfl⟩, by rw [upz_self]; exact hy, by rw [upz_self], by rw [upz_self, upz_self]; exact hs, by rw [upz_self]; rfl, trivial, by simp, ?_⟩
    exact a7.keep Ext.rf (fun j j0 j1 => ⟨upz_ne _ _ (by omega), upz_ne _ _ (by omega), upz_ne _ _ (by omega), upz_ne _ _ (by omega), upz_ne _ _ (by omega), upz_ne _ _ (by omega)⟩) (fun _ _ _ => rfl)
  · have e : neS ((obCar X, obCdr X, [], e, false) :: S) = 1 + neS S := rfl
    rw [e]
    omega
/-- the machine as it is seen from outside -/
def EvT (g : pw_P) (w : pw_W) (b : Nat) (B : Nat → Nat) (x : Nat → Int) (T : List Dn) (be : Bds) (fu : Nat) (NB : Int) (s0 : Nat) (t0 : Int → Ob) (n0 : Int) (mu : Nat) (R : Nat × Ob × Nat × Nat) : Prop :=
  ∃ (aw : Nat) (S : List Fr) (k : Nat) (wy dn vl li : Int) (t : Int → Ob) (n : Int) (sN : Nat) (fZ g1 g2 g3 g4 g5 g6 fv : Int → Int), EvM g w b B x T be fu NB s0 aw S k wy dn vl li t n sN fZ g1 g2 g3 g4 g5 g6 fv ∧ Ext t0 n0 t n ∧ ((wy = 0 ∧ dn = 1 ∧ aw = 1 ∧ FrsOk T S ∧ ∃ (y : Ob) (m nk : Nat), 2 * m ≤ mu ∧ Vl t n vl y ∧ mRun T fu m 1 y [] S k nk = R) ∨ (wy = 0 ∧ dn = 0 ∧ aw = 0 ∧ ∃ (f : Fr) (S' : List Fr) (m nk : Nat), S = f :: S' ∧ f.2.2.2.2 = false ∧ FrOk T 0 f ∧ FrsOk T S' ∧ 2 * m + 1 ≤ mu ∧ mRun T fu m 2 oNil [] S k nk = R) ∨ (∃ (fa : Nat) (y : Ob) (nk : Nat), wy = (fa : Int) ∧ (1 ≤ fa ∧ fa ≤ 3) ∧ R = (fa, y, k, nk)))
theorem EvT.mono {t0 : Int → Ob} {n0 : Int} {mu mu' : Nat} {R : Nat × Ob × Nat × Nat} (h : EvT g w b B x T be fu NB s0 t0 n0 mu R) (hm : mu ≤ mu') : EvT g w b B x T be fu NB s0 t0 n0 mu' R := by
  obtain ⟨aw, S, k, wy, dn, vl, li, t, n, sN, fZ, g1, g2, g3, g4, g5, g6, fv, h1, h2, h3⟩ := h
  refine ⟨aw, S, k, wy, dn, vl, li, t, n, sN, fZ, g1, g2, g3, g4, g5, g6, fv, h1, h2, ?_⟩
  rcases h3 with ⟨a, b, c, d, y, m, nk, e, f⟩ | ⟨a, b, c, f, S', m, nk, d1, d2, d3, d4, d5, d6⟩ | h
  · exact Or.inl ⟨a, b, c, d, y, m, nk, by omega, f⟩
  · exact Or.inr (Or.inl ⟨a, b, c, f, S', m, nk, d1, d2, d3, d4, by omega, d6⟩)
  · exact Or.inr (Or.inr h)
end
def bgV (e : Bds) (x : Ob) : Ob := if obV x then eLk e x else if obP x = false then x else obCar (obCdr x)
section
variable {T : List Dn} {fu m k nk : Nat} {x : Ob} {e : Bds} {S : List Fr}
theorem mRun_0v (h : isCl x = false) : mRun T fu (m + 1) 0 x e S k nk = mRun T fu m 1 (bgV e x) [] S k nk := by
  rw [mRun_0]
  unfold bgV
  split
  · rfl
  · split
    · rfl
    · rename_i hv hp
      have hp' : obP x = true := by cases hb : obP x <;> simp_all
      have hq : obCar x = oQuote := by
        unfold isCl at h
        rw [hp', Bool.true_and] at h
        have := of_decide_eq_false h
        exact Decidable.of_not_not this
      rw [if_pos hq]
theorem mRun_0c (h : isCl x = true) : mRun T fu (m + 1) 0 x e S k nk = if 300 ≤ S.length then (2, x, k, nk) else if fu ≤ k then (1, x, k, nk) else mRun T fu m 2 oNil [] ((obCar x, obCdr x, [], e, false) :: S) (k + 1) (max nk (S.length + 1)) := by
  unfold isCl at h
  rw [Bool.and_eq_true] at h
  rw [mRun_0, if_neg (by rw [obV_np h.1]; decide), if_neg (by rw [h.1]; decide), if_neg (of_decide_eq_true h.2)]
theorem isCn_v (h : isCn x = true) : isCl x = false ∧ bgV e x = vlO x ∧ (obP x = true → obP (obCdr x) = true) := by
  unfold isCn at h
  rw [Bool.or_eq_true] at h
  rcases h with h | h
  · have hp : obP x = false := by
      unfold isPc at h
      cases x <;> first | rfl | (simp [obN, oNil, oT] at h; done)
    have hv : obV x = false := by
      unfold isPc at h
      rw [Bool.or_eq_true] at h
      rcases h with h | h
      · cases x <;> first | rfl | cases h
      · rcases of_decide_eq_true h with e | e <;> rw [e] <;> decide
    refine ⟨by unfold isCl; rw [hp]; rfl, ?_, fun q => by rw [hp] at q; cases q⟩
    unfold bgV vlO
    rw [hv, hp]; rfl
  · have hq := h
    unfold obQ at hq
    simp only [Bool.and_eq_true, decide_eq_true_eq] at hq
    have hp : obP x = true := by
      cases hb : obP x with
      | true => rfl
      | false => rw [(obLen_car hb).2] at hq; exact absurd hq.2.1 (by decide)
    refine ⟨by unfold isCl; rw [decide_eq_false (fun q => q hq.1), Bool.and_false], ?_, fun _ => hq.2.1⟩
    unfold bgV vlO
    rw [obV_np hp, hp]; rfl
theorem isCn_n {vs : Ob → Bool} (h : isCn x = false) (hp : obP x = true) (hw : (wf2 T vs x).1 = true) : isCl x = true := by
  unfold isCn at h
  rw [Bool.or_eq_false_iff] at h
  unfold isCl
  rw [hp, Bool.true_and]
  refine decide_eq_true (fun hq => ?_)
  cases x with
  | add a c =>
    simp only [wf2, h.2, Bool.false_or, Bool.and_eq_true, decide_eq_true_eq] at hw
    have ha : arT T a = -1 := by
      have e : a = oQuote := hq
      unfold arT
      rw [e, show kIx oQuote = 2 from kIx_k 2 (by decide), if_pos (by decide)]
      rfl
    have := hw.1.1
    omega
  | _ => cases hp
theorem isCn_o (h : isCn x = false) (hp : obP x = false) (hs : obN x = true ∨ obS x = true) : isCl x = false ∧ obV x = true ∧ bgV e x = eLk e x := by
  unfold isCn isPc at h
  rw [Bool.or_eq_false_iff, Bool.or_eq_false_iff] at h
  have hS : obS x = true := hs.resolve_left (fun q => by rw [h.1.1] at q; cases q)
  have hn := of_decide_eq_false h.1.2
  have hv : obV x = true := by
    unfold obV
    rw [hS, decide_eq_true (p := x ≠ oNil) (fun q => hn (Or.inl q)), decide_eq_true (p := x ≠ oT) (fun q => hn (Or.inr q))]; rfl
  refine ⟨by unfold isCl; rw [hp]; rfl, hv, by unfold bgV; rw [if_pos hv]⟩
end
theorem zip_maps : ∀ {P : Ob} {us : List Ob}, obLen P = (us.length : Int) → (zipE P us).map Prod.fst = lsO P ∧ (zipE P us).map Prod.snd = us := by
  intro P
  induction P with
  | add a c ha hc =>
    intro us h
    cases us with
    | nil =>
      have := obLen_ge c
      simp only [obLen, List.length_nil] at h
      split at h <;> omega
    | cons v us =>
      have h2 : obLen c = (us.length : Int) := by
        have := obLen_ge c
        simp only [obLen, List.length_cons] at h
        split at h <;> omega
      obtain ⟨h3, h4⟩ := hc h2
      simp only [zipE, List.map_cons, lsO, h3, h4]
      exact ⟨trivial, trivial⟩
  | _ =>
    intro us h
    have hl := obLen_np (X := _) rfl (by rw [h]; omega)
    have : us = [] := List.length_eq_zero_iff.mp (by have := hl.2; omega)
    rw [this]
    exact ⟨rfl, rfl⟩
theorem VlsI.mapf {t : Int → Ob} {n : Int} {f : Int → Int} {e : Bds} {i : Int} {j : Nat} {q : Ob × Ob} (h : VlsI t n f i (e.map Prod.fst)) (hq : e[j]? = some q) : Vl t n (f (i + j)) q.1 := VlsI.mem j h (by rw [List.getElem?_map, hq]; rfl)
theorem VlsI.maps {t : Int → Ob} {n : Int} {f : Int → Int} {e : Bds} {i : Int} {j : Nat} {q : Ob × Ob} (h : VlsI t n f i (e.map Prod.snd)) (hq : e[j]? = some q) : Vl t n (f (i + j)) q.2 := VlsI.mem j h (by rw [List.getElem?_map, hq]; rfl)
theorem has_drop {e : Bds} {X : Ob} {j : Nat} (h : eHas (e.drop j) X = true) : ∃ q, e[j]? = some q ∧ e.drop j = q :: e.drop (j + 1) ∧ j < e.length := by
  have hj : j < e.length := by
    by_cases hj : j < e.length
    · exact hj
    · rw [List.drop_eq_nil_iff.mpr (by omega)] at h; cases h
  exact ⟨e[j], List.getElem?_eq_getElem hj, List.drop_eq_getElem_cons hj, hj⟩

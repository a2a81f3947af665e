/-! THE OPEN CALLS in the class -/
def frAt : List Fr → Nat → Option Fr
  | [], _ => none
  | f :: S, j => if j = S.length then some f else frAt S j
/-- where a term's variables have their values -/
def ScI (K : Nat → Nat) (T : List Dn) (be : Bds) (os : Option Nat) (e : Bds) (S : List Fr) : Prop :=
  (os = none ∧ e = be) ∨ ∃ (j : Nat) (f : Fr) (d : Dn), j < S.length ∧ os = some (K j) ∧ frAt S j = some f ∧ f.2.2.2.2 = true ∧ dLk T f.1 = some d ∧ e = zipE d.2.1 f.2.2.1 ∧ obLen d.2.1 = (f.2.2.1.length : Int)
def FrsI (g : pw_P) (w : pw_W) (K V D : Nat → Nat) (t : Int → Ob) (n : Int) (ds : List Df) (T : List Dn) (be : Bds) : List Fr → Prop
  | [] => True
  | (nm, r, vs, e, en) :: S => (∃ (zn zr : Int) (os : Option Nat) (f : Int → Int), w (200 + S.length) = (K S.length, some (clE (V S.length) (vs.length : Int) zn ((fIx ds zn 0).map D) zr os en)) ∧ w (600 + S.length) = (V S.length, some (AI g 6 f)) ∧ (∀ j, inI (f j)) ∧ Vl t n zn nm ∧ Vl t n zr r ∧ vs.length ≤ 6 ∧ VlsI t n f 0 vs ∧ ScI K T be os e S) ∧ FrsI g w K V D t n ds T be S
theorem frAt_lt {f : Fr} : ∀ {S : List Fr} {j : Nat}, frAt S j = some f → j < S.length
  | [], _, h => by cases h
  | q :: S, j, h => by
    simp only [frAt] at h
    simp only [List.length_cons]
    split at h
    · omega
    · have := frAt_lt h; omega
theorem ScI.upK {K K' : Nat → Nat} {T : List Dn} {be : Bds} {os : Option Nat} {e : Bds} {S : List Fr} (h : ScI K T be os e S) (hK : ∀ i, i < S.length → K' i = K i) : ScI K' T be os e S := by
  rcases h with h | ⟨j, f, d, h1, h2, h3⟩
  · exact Or.inl h
  · exact Or.inr ⟨j, f, d, h1, by rw [hK j h1]; exact h2, h3⟩
theorem ScI.push {K : Nat → Nat} {T : List Dn} {be : Bds} {os : Option Nat} {e : Bds} {S : List Fr} (q : Fr) (h : ScI K T be os e S) : ScI K T be os e (q :: S) := by
  rcases h with h | ⟨j, f, d, h1, h2, h3, h4⟩
  · exact Or.inl h
  · refine Or.inr ⟨j, f, d, by simp only [List.length_cons]; omega, h2, ?_, h4⟩
    simp only [frAt]
    rw [if_neg (by omega)]
    exact h3
theorem VlsI.ext {t t' : Int → Ob} {n n' : Int} {f : Int → Int} (he : Ext t n t' n') : ∀ {i : Int} {vs : List Ob}, VlsI t n f i vs → VlsI t' n' f i vs
  | _, [], _ => trivial
  | _, _ :: _, h => ⟨h.1.ext he, VlsI.ext he h.2⟩
theorem VlsI.add {t : Int → Ob} {n : Int} {f : Int → Int} {z : Int} {v : Ob} (hz : Vl t n z v) : ∀ {i : Int} {vs : List Ob}, VlsI t n f i vs → VlsI t n (upz f (i + vs.length) z) i (vs ++ [v])
  | i, [], _ => ⟨by rw [show i + (([] : List Ob).length : Int) = i by simp, upz_self]; exact hz, trivial⟩
  | i, q :: vs, h => by
    refine ⟨by rw [upz_ne _ _ (by simp only [List.length_cons]; omega)]; exact h.1, ?_⟩
    have := VlsI.add hz h.2
    rw [show i + 1 + (vs.length : Int) = i + ((q :: vs).length : Int) by simp only [List.length_cons]; omega] at this
    exact this
theorem VlsI.get {t : Int → Ob} {n : Int} {f : Int → Int} : ∀ {i : Int} {vs : List Ob} (j : Nat), VlsI t n f i vs → j < vs.length → Vl t n (f (i + j)) (vs.getD j oNil)
  | i, v :: vs, 0, h, _ => by rw [show i + ((0 : Nat) : Int) = i by simp]; exact h.1
  | i, v :: vs, j + 1, h, hj => by
    have := VlsI.get j h.2 (by simp only [List.length_cons] at hj; omega)
    rw [show i + ((j + 1 : Nat) : Int) = i + 1 + (j : Int) by omega]
    exact this
theorem FrsI.up {g : pw_P} {w w' : pw_W} {K V K' V' D : Nat → Nat} {t t' : Int → Ob} {n n' : Int} {ds : List Df} {T : List Dn} {be : Bds} (he : Ext t n t' n') : ∀ {S : List Fr}, FrsI g w K V D t n ds T be S → (∀ i, i < S.length → K' i = K i ∧ V' i = V i ∧ w' (200 + i) = w (200 + i) ∧ w' (600 + i) = w (600 + i)) → FrsI g w' K' V' D t' n' ds T be S
  | [], _, _ => trivial
  | (nm, r, vs, e, en) :: S, h, hk => by
    obtain ⟨⟨zn, zr, os, f, h1, h2, h3, h4, h5, h6, h7, h8⟩, h9⟩ := h
    obtain ⟨k1, k2, k3, k4⟩ := hk S.length (by simp only [List.length_cons]; omega)
    refine ⟨⟨zn, zr, os, f, ?_, ?_, h3, h4.ext he, h5.ext he, h6, h7.ext he, h8.upK (fun i hi => (hk i (by simp only [List.length_cons]; omega)).1)⟩, h9.up he (fun i hi => hk i (by simp only [List.length_cons]; omega))⟩
    · rw [k3, k1, k2]; exact h1
    · rw [k4, k2]; exact h2
def PoolI (g : pw_P) (w : pw_W) (K V : Nat → Nat) (nk : Nat) : Prop := ∀ i, i < nk → ∃ (vc nm : Int) (od : Option Nat) (rr : Int) (os : Option Nat) (en : Bool) (f : Int → Int), w (200 + i) = (K i, some (clE (V i) vc nm od rr os en)) ∧ w (600 + i) = (V i, some (AI g 6 f)) ∧ ∀ j, inI (f j)
/-- the bindings of the outermost term, where it has any -/
def BdI (t : Int → Ob) (n bi : Int) (be : Bds) : Prop := inI bi ∧ (be = [] ∨ ∃ B, Vl t n bi B ∧ be = bEnv B ∧ spL B ≤ 1000)
theorem BdI.ext {t t' : Int → Ob} {n n' bi : Int} {be : Bds} (h : BdI t n bi be) (he : Ext t n t' n') : BdI t' n' bi be :=
  ⟨h.1, h.2.imp id (fun ⟨B, h1, h2⟩ => ⟨B, h1.ext he, h2⟩)⟩
/-- the evaluator at work, but for what it does next -/
def EvB (g : pw_P) (w : pw_W) (A D : Nat → Nat) (cap : Nat) (t : Int → Ob) (n : Int) (ds : List Df) (T : List Dn) (be : Bds) (fu : Nat) (fa : Int) (S : List Fr) (k nk : Nat) (K V : Nat → Nat) (mv tm : Int) (sc : Option Nat) (vl : Int) : Prop :=
  SB g w (A 2) cap t n ∧ FnI g w A D ds ∧ DsT t n ds T ∧ (∃ (F : Nat → Option Nat) (bi : Int), w 18 = (A 18, some (evE A (S.length : Int) (fu : Int) (k : Int) fa bi mv tm sc vl)) ∧ w 19 = (A 19, some (AR g 5 300 F)) ∧ (∀ i, i < 300 → F i = if i < nk then some (K i) else none) ∧ BdI t n bi be) ∧ nk ≤ 300 ∧ S.length ≤ nk ∧ PoolI g w K V nk ∧ FrsI g w K V D t n ds T be S ∧ (fu ≤ 1000 ∧ k ≤ fu)
/-- the evaluator at work -/
def EvS (g : pw_P) (w : pw_W) (A D : Nat → Nat) (cap : Nat) (t : Int → Ob) (n : Int) (ds : List Df) (T : List Dn) (be : Bds) (fu : Nat) (fa : Int) (md : Nat) (x : Ob) (e : Bds) (S : List Fr) (k nk : Nat) : Prop :=
  ∃ (K V : Nat → Nat) (mv tm : Int) (sc : Option Nat) (vl : Int), EvB g w A D cap t n ds T be fu fa S k nk K V mv tm sc vl ∧ (md = 0 → mv = 0 ∧ Vl t n tm x ∧ ScI K T be sc e S) ∧ (md = 1 → mv = 1 ∧ Vl t n vl x) ∧ (md = 2 → mv = 2)
abbrev frE (w w' : pw_W) : Prop := ∀ k, (k < 2 ∨ (7 < k ∧ k < 18) ∨ (19 < k ∧ k < 200) ∨ 899 < k) → w' k = w k
theorem EvB.recE {g : pw_P} {p : Program} {s : State} {m : MethodId} {args : Array Value} {meth : Method} {c : Code} {cc : ByteArray} {nL : Nat} {own : String} {w : pw_W} {A D : Nat → Nat} {cap : Nat} {t : Int → Ob} {n : Int} {ds : List Df} {T : List Dn} {be : Bds} {fu : Nat} {fa : Int} {S : List Fr} {k nk : Nat} {K V : Nat → Nat} {mv tm : Int} {sc : Option Nat} {vl : Int} (C : pw_C g p s m args meth c cc nL own) (h : EvB g w A D cap t n ds T be fu fa S k nk K V mv tm sc vl) : pw_rec g s w (A 18) RX3 := by
  obtain ⟨-, -, -, ⟨F, bi, h1, -⟩, -⟩ := h
  exact pw_rec.of C h1 cl_X3.1
section
variable {g : pw_P} {w : pw_W} {A D : Nat → Nat} {cap : Nat} {t : Int → Ob} {n : Int} {ds : List Df} {T : List Dn} {be : Bds} {fu : Nat} {fa : Int} {S : List Fr} {k nk : Nat} {K V : Nat → Nat} {mv tm : Int} {sc : Option Nat} {vl : Int}
theorem PoolI.same {w' : pw_W} {K' V' : Nat → Nat} (h : PoolI g w K V nk) (hf : ∀ i, i < nk → K' i = K i ∧ V' i = V i ∧ w' (200 + i) = w (200 + i) ∧ w' (600 + i) = w (600 + i)) : PoolI g w' K' V' nk := by
  intro i hi
  obtain ⟨vc, nm, od, rr, os, en, f, h1, h2, h3⟩ := h i hi
  obtain ⟨k1, k2, k3, k4⟩ := hf i hi
  exact ⟨vc, nm, od, rr, os, en, f, by rw [k3, k1, k2]; exact h1, by rw [k4, k2]; exact h2, h3⟩
/-- its own fields alone change -/
theorem EvB.lens (h : EvB g w A D cap t n ds T be fu fa S k nk K V mv tm sc vl) : ∃ (bi : Int) (F : Nat → Option Nat), w 18 = (A 18, some (evE A (S.length : Int) (fu : Int) (k : Int) fa bi mv tm sc vl)) ∧ w 19 = (A 19, some (AR g 5 300 F)) ∧ (∀ i, i < 300 → F i = if i < nk then some (K i) else none) ∧ BdI t n bi be ∧ ∀ (w' : pw_W) (fa' mv' tm' vl' : Int) (sc' : Option Nat) (k' : Nat), w' 18 = (A 18, some (evE A (S.length : Int) (fu : Int) (k' : Int) fa' bi mv' tm' sc' vl')) → (∀ j, j ≠ 18 → w' j = w j) → k' ≤ fu → EvB g w' A D cap t n ds T be fu fa' S k' nk K V mv' tm' sc' vl' := by
  obtain ⟨hS, hF, hD, ⟨F, bi, q1, q2, q3, q4⟩, q7, q8, q9, q10, q11⟩ := h
  refine ⟨bi, F, q1, q2, q3, q4, fun w' fa' mv' tm' vl' sc' k' h18 hf hk => ?_⟩
  exact ⟨hS.same (fun k h1 h2 => hf k (by omega)), hF.same (fun k h1 => hf k (by omega)), hD, ⟨F, bi, h18, (hf 19 (by decide)).trans q2, q3, q4⟩, q7, q8, q9.same (fun i hi => ⟨rfl, rfl, hf _ (by omega), hf _ (by omega)⟩), q10.up Ext.rf (fun i hi => ⟨rfl, rfl, hf _ (by omega), hf _ (by omega)⟩), q11.1, hk⟩
/-- the top call: its fields, and what may come of them -/
theorem EvB.top {nm r : Ob} {vs : List Ob} {e : Bds} {en : Bool} (h : EvB g w A D cap t n ds T be fu fa ((nm, r, vs, e, en) :: S) k nk K V mv tm sc vl) : ∃ (bi : Int) (F : Nat → Option Nat) (zn zr : Int) (os : Option Nat) (f : Int → Int), w 18 = (A 18, some (evE A ((S.length : Int) + 1) (fu : Int) (k : Int) fa bi mv tm sc vl)) ∧ w 19 = (A 19, some (AR g 5 300 F)) ∧ F S.length = some (K S.length) ∧ S.length < 300 ∧ w (200 + S.length) = (K S.length, some (clE (V S.length) (vs.length : Int) zn ((fIx ds zn 0).map D) zr os en)) ∧ w (600 + S.length) = (V S.length, some (AI g 6 f)) ∧ (∀ j, inI (f j)) ∧ Vl t n zn nm ∧ Vl t n zr r ∧ vs.length ≤ 6 ∧ VlsI t n f 0 vs ∧ ScI K T be os e S ∧ inI bi ∧
    (∀ (w' : pw_W) (fa' mv' tm' vl' zr' : Int) (sc' : Option Nat) (r' : Ob) (vs' : List Ob) (en' : Bool) (f' : Int → Int), w' 18 = (A 18, some (evE A ((S.length : Int) + 1) (fu : Int) (k : Int) fa' bi mv' tm' sc' vl')) → w' (200 + S.length) = (K S.length, some (clE (V S.length) (vs'.length : Int) zn ((fIx ds zn 0).map D) zr' os en')) → w' (600 + S.length) = (V S.length, some (AI g 6 f')) → (∀ j, j ≠ 18 → j ≠ 200 + S.length → j ≠ 600 + S.length → w' j = w j) → (∀ j, inI (f' j)) → Vl t n zr' r' → vs'.length ≤ 6 → VlsI t n f' 0 vs' → EvB g w' A D cap t n ds T be fu fa' ((nm, r', vs', e, en') :: S) k nk K V mv' tm' sc' vl') ∧
    (∀ (w' : pw_W) (t' : Int → Ob) (n' : Int) (fa' mv' tm' vl' : Int) (sc' : Option Nat), w' 18 = (A 18, some (evE A (S.length : Int) (fu : Int) (k : Int) fa' bi mv' tm' sc' vl')) → SB g w' (A 2) cap t' n' → Ext t n t' n' → (∀ j, (j < 2 ∨ 7 < j) → j ≠ 18 → w' j = w j) → EvB g w' A D cap t' n' ds T be fu fa' S k nk K V mv' tm' sc' vl') := by
  obtain ⟨hS, hF, hD, ⟨F, bi, q1, q2, q3, q4⟩, q7, q8, q9, ⟨⟨zn, zr, os, f, h1, h2, h3, h4, h5, h6, h7, h8⟩, h9⟩, q11⟩ := h
  simp only [List.length_cons] at q1 q8
  refine ⟨bi, F, zn, zr, os, f, q1, q2, by rw [q3 _ (by omega), if_pos (by omega)], by omega, h1, h2, h3, h4, h5, h6, h7, h8, q4.1, ?_, ?_⟩
  · intro w' fa' mv' tm' vl' zr' sc' r' vs' en' f' k1 k2 k3 k4 k5 k6 k7 k8
    refine ⟨hS.same (fun k h1 h2 => k4 k (by omega) (by omega) (by omega)), hF.same (fun k h1 => k4 k (by omega) (by omega) (by omega)), hD, ⟨F, bi, by simp only [List.length_cons]; exact k1, (k4 19 (by decide) (by omega) (by omega)).trans q2, q3, q4⟩, q7, by simp only [List.length_cons]; exact q8, ?_, ⟨⟨zn, zr', os, f', k2, k3, k5, h4, k6, k7, k8, h8⟩, h9.up Ext.rf (fun i hi => ⟨rfl, rfl, k4 _ (by omega) (by omega) (by omega), k4 _ (by omega) (by omega) (by omega)⟩)⟩, q11⟩
    intro i hi
    by_cases e : i = S.length
    · rw [e]; exact ⟨_, _, _, _, _, _, f', k2, k3, k5⟩
    · obtain ⟨vc, nm, od, rr, os, en, f, g1, g2, g3⟩ := q9 i hi
      exact ⟨vc, nm, od, rr, os, en, f, (k4 _ (by omega) (by omega) (by omega)).trans g1, (k4 _ (by omega) (by omega) (by omega)).trans g2, g3⟩
  · intro w' t' n' fa' mv' tm' vl' sc' k1 k2 k3 k4
    exact ⟨k2, hF.same (fun k h1 => k4 k (by omega) (by omega)), hD.ext k3, ⟨F, bi, k1, (k4 19 (by omega) (by decide)).trans q2, q3, q4.ext k3⟩, q7, by omega, q9.same (fun i hi => ⟨rfl, rfl, k4 _ (by omega) (by omega), k4 _ (by omega) (by omega)⟩), h9.up k3 (fun i hi => ⟨rfl, rfl, k4 _ (by omega) (by omega), k4 _ (by omega) (by omega)⟩), q11⟩
/-- a call more -/
theorem EvB.push {w' : pw_W} {K' V' : Nat → Nat} {bi mv' z y : Int} {N R0 : Ob} {e : Bds} {F : Nat → Option Nat} {f : Int → Int} (h : EvB g w A D cap t n ds T be fu 0 S k nk K V mv tm sc vl) (hB : BdI t n bi be) (hs : ScI K T be sc e S) (hz : Vl t n z N) (hy : Vl t n y R0) (hl : S.length < 300) (hk : k < fu)
    (h18 : w' 18 = (A 18, some (evE A (((S.length + 1 : Nat)) : Int) (fu : Int) ((k + 1 : Nat) : Int) 0 bi mv' tm sc vl))) (h19 : w' 19 = (A 19, some (AR g 5 300 F))) (hF : ∀ i, i < 300 → F i = if i < max nk (S.length + 1) then some (K' i) else none) (hK : ∀ i, i < nk → i ≠ S.length → K' i = K i ∧ V' i = V i)
    (h2 : w' (200 + S.length) = (K' S.length, some (clE (V' S.length) 0 z ((fIx ds z 0).map D) y sc false))) (h6 : w' (600 + S.length) = (V' S.length, some (AI g 6 f))) (hf : ∀ j, inI (f j)) (hfr : ∀ j, j ≠ 18 → j ≠ 19 → j ≠ 200 + S.length → j ≠ 600 + S.length → w' j = w j) : EvB g w' A D cap t n ds T be fu 0 ((N, R0, [], e, false) :: S) (k + 1) (max nk (S.length + 1)) K' V' mv' tm sc vl := by
  obtain ⟨hS, hFn, hD, -, q7, q8, q9, q10, q11⟩ := h
  refine ⟨hS.same (fun k h1 h2 => hfr k (by omega) (by omega) (by omega) (by omega)), hFn.same (fun k h1 => hfr k (by omega) (by omega) (by omega) (by omega)), hD, ⟨F, bi, h18, h19, hF, hB⟩, by omega, by simp only [List.length_cons]; omega, ?_, ⟨⟨z, y, sc, f, h2, h6, hf, hz, hy, by simp, trivial, hs.upK (fun i hi => (hK i (by omega) (by omega)).1)⟩, q10.up Ext.rf (fun i hi => ⟨(hK i (by omega) (by omega)).1, (hK i (by omega) (by omega)).2, hfr _ (by omega) (by omega) (by omega) (by omega), hfr _ (by omega) (by omega) (by omega) (by omega)⟩)⟩, q11.1, by omega⟩
  intro i hi
  by_cases e : i = S.length
  · rw [e]; exact ⟨_, _, _, _, _, _, f, h2, h6, hf⟩
  · obtain ⟨vc, nm, od, rr, os, en, f, g1, g2, g3⟩ := q9 i (by omega)
    obtain ⟨k1, k2⟩ := hK i (by omega) e
    exact ⟨vc, nm, od, rr, os, en, f, by rw [k1, k2]; exact (hfr _ (by omega) (by omega) (by omega) (by omega)).trans g1, by rw [k2]; exact (hfr _ (by omega) (by omega) (by omega) (by omega)).trans g2, g3⟩
end

theorem elF_eq {σ : Nat → Int → Int} {t : Int → Ob} {n o : Int} (h : sT σ t n) (ho : 0 ≤ o ∧ o < n) : ∀ (fu : Nat) (q : Int), 0 ≤ q → q < n → q < fu + 1 → elF σ n o fu q = obEl (t o) (t q)
  | 0, q, h0, h1, h2 => by
    have e : q = 0 := by omega
    rw [e, show t 0 = .index (kn 0) from h.2.2.2 0 (by decide)]
    rfl
  | fu + 1, q, h0, h1, h2 => by
    rw [elF, sP_eq h ⟨h0, h1⟩]
    rcases h.1 q h0 h1 with ⟨p1, p2, p3, -⟩ | ⟨p1, p2, p3, -⟩ | ⟨b0, b1, a0, a1, p3, -⟩
    · rw [p3]; rfl
    · rw [p3]; rfl
    · have hs : sTl σ n q = σ 1 q := by unfold sTl; rw [sP_eq h ⟨h0, h1⟩, p3]; simp [obP]
      have hd : sHd σ n q = σ 0 q := by unfold sHd; rw [sP_eq h ⟨h0, h1⟩, p3]; simp [obP]
      rw [hs, hd, elF_eq h ho fu (σ 1 q) b0 (by omega) (by omega), p3]
      simp only [obP, obEl, if_true]
      by_cases e : σ 0 q = o
      · rw [if_pos e, e, if_pos rfl]
      · rw [if_neg e, if_neg]
        intro e2
        exact e (sT_inj h _ _ _ rfl a0 (by omega) ho.1 ho.2 e2)
theorem sM_0 (f0 f1 f2 f3 f4 : Int → Int) : sM f0 f1 f2 f3 f4 0 = f0 := rfl
theorem sM_1 (f0 f1 f2 f3 f4 : Int → Int) : sM f0 f1 f2 f3 f4 1 = f1 := rfl
theorem sM_2 (f0 f1 f2 f3 f4 : Int → Int) : sM f0 f1 f2 f3 f4 2 = f2 := rfl
theorem sM_3 (f0 f1 f2 f3 f4 : Int → Int) : sM f0 f1 f2 f3 f4 3 = f3 := rfl
theorem sM_4 (f0 f1 f2 f3 f4 : Int → Int) : sM f0 f1 f2 f3 f4 4 = f4 := rfl
theorem sT_M {σ : Nat → Int → Int} {t : Int → Ob} {n q : Int} {f3 f4 : Int → Int} (h : sT σ t n) (hq : 24 ≤ q ∧ q ≤ n) : sT (sM (σ 0) (σ 1) (σ 2) f3 f4) t q :=
  ⟨fun i h0 h1 => h.1 i h0 (by omega), fun i j h0 h1 g0 g1 => h.2.1 i j h0 (by omega) g0 (by omega), hq.1, h.2.2.2⟩
theorem cpyZ_in {f f1 : Int → Int} {n j : Int} (h : 0 ≤ j ∧ j < n) : cpyZ f f1 n j = f j := by unfold cpyZ; rw [if_pos h]
theorem sT_cpy {σ : Nat → Int → Int} {t : Int → Ob} {n : Int} {cap : Int} {f4 : Int → Int} (h : sT σ t n) (hn : n ≤ cap) : sT (sM (cpyZ (σ 0) (fun _ => 0) cap) (cpyZ (σ 1) (fun _ => 0) cap) (cpyZ (σ 2) (fun _ => 0) cap) (cpyZ (σ 3) (fun _ => 0) cap) f4) t n := by
  refine ⟨fun i h0 h1 => ?_, fun i j h0 h1 g0 g1 e1 e2 => ?_, h.2.2⟩
  · have e := h.1 i h0 h1
    unfold nodeOk at e ⊢
    simp only [sM_0, sM_1, sM_2, cpyZ_in (f := σ 0) (f1 := fun _ => 0) (n := cap) (j := i) ⟨h0, by omega⟩, cpyZ_in (f := σ 1) (f1 := fun _ => 0) (n := cap) (j := i) ⟨h0, by omega⟩, cpyZ_in (f := σ 2) (f1 := fun _ => 0) (n := cap) (j := i) ⟨h0, by omega⟩]
    exact e
  · simp only [sM_0, sM_1, cpyZ_in (f := σ 0) (f1 := fun _ => 0) (n := cap) (j := i) ⟨h0, by omega⟩, cpyZ_in (f := σ 0) (f1 := fun _ => 0) (n := cap) (j := j) ⟨g0, by omega⟩] at e1
    simp only [sM_0, sM_1, cpyZ_in (f := σ 1) (f1 := fun _ => 0) (n := cap) (j := i) ⟨h0, by omega⟩, cpyZ_in (f := σ 1) (f1 := fun _ => 0) (n := cap) (j := j) ⟨g0, by omega⟩] at e2
    exact h.2.1 i j h0 h1 g0 g1 e1 e2
theorem sC_cpy {σ : Nat → Int → Int} {n cap : Int} (h : sC σ n) (h0 : 0 ≤ n) (hn : n ≤ cap) : sC (sM (cpyZ (σ 0) (fun _ => 0) cap) (cpyZ (σ 1) (fun _ => 0) cap) (cpyZ (σ 2) (fun _ => 0) cap) (cpyZ (σ 3) (fun _ => 0) cap) (σ 4)) n := by
  have key : ∀ (c : Int) (k : Nat), (k : Int) ≤ cap → lst (sM (cpyZ (σ 0) (fun _ => 0) cap) (cpyZ (σ 1) (fun _ => 0) cap) (cpyZ (σ 2) (fun _ => 0) cap) (cpyZ (σ 3) (fun _ => 0) cap) (σ 4)) c k = lst σ c k := fun c k hk => lst_eq c k (fun m m0 m1 => by rw [sM_0, sM_1]; exact ⟨cpyZ_in ⟨m0, by omega⟩, cpyZ_in ⟨m0, by omega⟩⟩)
  refine ⟨fun c c0 c1 => ?_, fun i i0 i1 => ?_⟩
  · rw [key c _ (by omega)]; exact h.1 c c0 c1
  · rw [key _ _ (by omega), sM_3, sM_0, sM_1, cpyZ_in ⟨i0, by omega⟩, cpyZ_in ⟨i0, by omega⟩, cpyZ_in ⟨i0, by omega⟩]
    exact h.2 i i0 i1
/-- one object more: the chains and the trees -/
theorem sC_push {σ : Nat → Int → Int} {n a b h : Int} (hC : sC σ n) (hn : 0 ≤ n) : sC (sM (upz (σ 0) n a) (upz (σ 1) n b) (upz (σ 2) n h) (upz (σ 3) n (σ 4 (bkt a b))) (upz (σ 4) (bkt a b) n)) (n + 1) := by
  have key : ∀ (c : Int) (k : Nat), (k : Int) ≤ n → lst (sM (upz (σ 0) n a) (upz (σ 1) n b) (upz (σ 2) n h) (upz (σ 3) n (σ 4 (bkt a b))) (upz (σ 4) (bkt a b) n)) c k = lst σ c k := fun c k hk => lst_eq c k (fun m m0 m1 => by rw [sM_0, sM_1]; exact ⟨upz_ne _ _ (by omega), upz_ne _ _ (by omega)⟩)
  have e : (n + 1).toNat = n.toNat + 1 := by omega
  have e2 : (n.toNat : Int) = n := by omega
  refine ⟨fun c c0 c1 => ?_, fun i i0 i1 => ?_⟩
  · rw [e, lst, key c _ (by omega), e2, sM_0, sM_1, sM_4, upz_self, upz_self]
    by_cases hc : c = bkt a b
    · rw [hc, upz_self, if_pos rfl]
    · rw [upz_ne _ _ hc, if_neg (fun q => hc q.symm)]
      exact hC.1 c c0 c1
  · rw [key _ _ (by omega), sM_0, sM_1, sM_3]
    by_cases hi : i = n
    · rw [hi, upz_self, upz_self, upz_self]
      exact hC.1 _ (bkt_in a b).1 (bkt_in a b).2
    · rw [upz_ne _ _ hi, upz_ne _ _ hi, upz_ne _ _ hi]
      exact hC.2 i i0 (by omega)
def tUp (t : Int → Ob) (n : Int) (X : Ob) : Int → Ob := fun i => if i = n then X else t i
theorem tUp_self (t : Int → Ob) (n : Int) (X : Ob) : tUp t n X n = X := by simp [tUp]
theorem tUp_ne (t : Int → Ob) {n i : Int} (X : Ob) (h : i ≠ n) : tUp t n X i = t i := by simp [tUp, h]
theorem sT_push {σ : Nat → Int → Int} {t : Int → Ob} {n a b h : Int} {X : Ob} (hT : sT σ t n) (hno : ∀ m : Int, 0 ≤ m → m < n → ¬ (σ 0 m = a ∧ σ 1 m = b))
    (hX : (b = -1 ∧ 0 ≤ a ∧ X = .arg a.toNat ∧ h = 0) ∨ (b = -2 ∧ 0 ≤ a ∧ X = .index a.toNat ∧ h = 0) ∨ (0 ≤ b ∧ b < n ∧ 0 ≤ a ∧ a < n ∧ X = .add (t a) (t b) ∧ h = obHt X)) {f3 f4 : Int → Int} : sT (sM (upz (σ 0) n a) (upz (σ 1) n b) (upz (σ 2) n h) f3 f4) (tUp t n X) (n + 1) := by
  refine ⟨fun i h0 h1 => ?_, fun i j h0 h1 g0 g1 e1 e2 => ?_, by have := hT.2.2.1; omega, fun k hk => ?_⟩
  · show (upz (σ 1) n b i = -1 ∧ 0 ≤ upz (σ 0) n a i ∧ _ = Term.arg (upz (σ 0) n a i).toNat ∧ upz (σ 2) n h i = 0) ∨ (upz (σ 1) n b i = -2 ∧ 0 ≤ upz (σ 0) n a i ∧ _ = Term.index (upz (σ 0) n a i).toNat ∧ upz (σ 2) n h i = 0) ∨ (0 ≤ upz (σ 1) n b i ∧ upz (σ 1) n b i < i ∧ 0 ≤ upz (σ 0) n a i ∧ upz (σ 0) n a i < i ∧ _ = Term.add (tUp t n X (upz (σ 0) n a i)) (tUp t n X (upz (σ 1) n b i)) ∧ upz (σ 2) n h i = obHt (tUp t n X i))
    by_cases hi : i = n
    · rw [hi, upz_self, upz_self, upz_self, tUp_self]
      rcases hX with h | h | ⟨b0, b1, a0, a1, e, eh⟩
      · exact Or.inl h
      · exact Or.inr (Or.inl h)
      · exact Or.inr (Or.inr ⟨b0, b1, a0, a1, by rw [tUp_ne _ _ (by omega), tUp_ne _ _ (by omega)]; exact e, eh⟩)
    · rw [upz_ne _ _ hi, upz_ne _ _ hi, upz_ne _ _ hi, tUp_ne _ _ hi]
      rcases hT.1 i h0 (by omega) with h | h | ⟨b0, b1, a0, a1, e, eh⟩
      · exact Or.inl h
      · exact Or.inr (Or.inl h)
      · exact Or.inr (Or.inr ⟨b0, b1, a0, a1, by rw [tUp_ne _ _ (by omega), tUp_ne _ _ (by omega)]; exact e, eh⟩)
  · have e1 : upz (σ 0) n a i = upz (σ 0) n a j := e1
    have e2 : upz (σ 1) n b i = upz (σ 1) n b j := e2
    by_cases hi : i = n <;> by_cases hj : j = n
    · omega
    · rw [hi, upz_self, upz_ne _ _ hj] at e1 e2
      exact absurd ⟨e1.symm, e2.symm⟩ (hno j g0 (by omega))
    · rw [hj, upz_self, upz_ne _ _ hi] at e1 e2
      exact absurd ⟨e1, e2⟩ (hno i h0 (by omega))
    · rw [upz_ne _ _ hi, upz_ne _ _ hj] at e1 e2
      exact hT.2.1 i j h0 (by omega) g0 (by omega) e1 e2
  · have := hT.2.2.1
    rw [tUp_ne _ _ (by omega)]
    exact hT.2.2.2 k hk
/-- an object that was asked for: where it is, and the store that has it -/
def sNew (g : pw_P) (w w' : pw_W) (cap : Nat) (t : Int → Ob) (n : Int) (X : Ob) (r : Option Value) : Prop :=
  ∃ (z : Int) (t' : Int → Ob) (n' : Int), r = some (.int (iZ z)) ∧ SW g w' cap t' n' ∧ (∀ i, 0 ≤ i → i < n → t' i = t i) ∧ n ≤ n' ∧ n' ≤ n + 1 ∧ (n' = n ∨ (z = n ∧ n' = n + 1)) ∧ 0 ≤ z ∧ z < n' ∧ t' z = X ∧ (w' 2).1 = (w 2).1 ∧ ∀ k, (k < 2 ∨ 7 < k) → w' k = w k
theorem sNew_of {g : pw_P} {w w' : pw_W} {cap : Nat} {σ : Nat → Int → Int} {t : Int → Ob} {n a b h : Int} {X : Ob} {r : Option Value} (hS : St g w cap σ n) (hC : sC σ n) (hT : sT σ t n)
    (hX : (b = -1 ∧ 0 ≤ a ∧ X = .arg a.toNat ∧ h = 0) ∨ (b = -2 ∧ 0 ≤ a ∧ X = .index a.toNat ∧ h = 0) ∨ (0 ≤ b ∧ b < n ∧ 0 ≤ a ∧ a < n ∧ X = .add (t a) (t b) ∧ h = obHt X)) (hp : sHold g w w' cap σ n a b h r) : sNew g w w' cap t n X r := by
  rcases hp with ⟨j, j0, j1, e0, e1, rfl, rfl⟩ | ⟨hno, rfl, hS', hw2, hfr⟩
  · refine ⟨j, t, n, rfl, ⟨σ, hS, hC, hT⟩, fun _ _ _ => rfl, Int.le_refl _, by omega, Or.inl rfl, j0, j1, ?_, rfl, fun _ _ => rfl⟩
    rcases hT.1 j j0 j1 with ⟨p1, p2, p3, -⟩ | ⟨p1, p2, p3, -⟩ | ⟨b0, b1, a0, a1, p3, -⟩
    · rcases hX with ⟨q1, q2, q3, -⟩ | ⟨q1, -⟩ | ⟨q1, -⟩
      · rw [p3, q3, e0]
      · omega
      · omega
    · rcases hX with ⟨q1, -⟩ | ⟨q1, q2, q3, -⟩ | ⟨q1, -⟩
      · omega
      · rw [p3, q3, e0]
      · omega
    · rcases hX with ⟨q1, -⟩ | ⟨q1, -⟩ | ⟨q1, q2, q4, q5, q3, -⟩
      · omega
      · omega
      · rw [p3, q3, e0, e1]
  · have hn := hS.rN
    exact ⟨n, tUp t n X, n + 1, rfl, ⟨_, hS', sC_push hC hn.1, sT_push hT hno hX⟩, fun i h0 h1 => tUp_ne _ _ (by omega), by omega, Int.le_refl _, Or.inr ⟨rfl, rfl⟩, hn.1, by omega, tUp_self _ _ _, hw2, hfr⟩
section
variable {g : pw_P} {l : Launch} {w : pw_W} {cap : Nat} {t : Int → Ob} {n o : Int}

theorem tr_isPair {b : Nat} (hb : (w 2).1 = b) (hS : SW g w cap t n) (ho : 0 ≤ o ∧ o < n) : pw_M g l yX6_isPair cX6_isPair 2 (some .boolean) { frames := 0, cells := 0, slots := 0, locals := 0 } [.ref b, .int (iZ o)] w (fun r w' => w = w' ∧ r = some (.int (iZ (b2i (obP (t o)))))) := by
  subst hb
  obtain ⟨σ, h1, h2, h3⟩ := hS
  have hN := h1.rN
  refine (m_X6_isPair g l h1 (o := o) ⟨by omega, by omega⟩).mono (fun r w' hp => ?_)
  exact ⟨hp.1, by rw [hp.2, sP_eq h3 ho]⟩

theorem tr_isNatural {b : Nat} (hb : (w 2).1 = b) (hS : SW g w cap t n) (ho : 0 ≤ o ∧ o < n) : pw_M g l yX6_isNatural cX6_isNatural 2 (some .boolean) { frames := 0, cells := 0, slots := 0, locals := 0 } [.ref b, .int (iZ o)] w (fun r w' => w = w' ∧ r = some (.int (iZ (b2i (obN (t o)))))) := by
  subst hb
  obtain ⟨σ, h1, h2, h3⟩ := hS
  have hN := h1.rN
  refine (m_X6_isNatural g l h1 (o := o) ⟨by omega, by omega⟩).mono (fun r w' hp => ?_)
  exact ⟨hp.1, by rw [hp.2, sN_eq h3 ho]⟩

theorem tr_isSymbol {b : Nat} (hb : (w 2).1 = b) (hS : SW g w cap t n) (ho : 0 ≤ o ∧ o < n) : pw_M g l yX6_isSymbol cX6_isSymbol 2 (some .boolean) { frames := 0, cells := 0, slots := 0, locals := 0 } [.ref b, .int (iZ o)] w (fun r w' => w = w' ∧ r = some (.int (iZ (b2i (obS (t o)))))) := by
  subst hb
  obtain ⟨σ, h1, h2, h3⟩ := hS
  have hN := h1.rN
  refine (m_X6_isSymbol g l h1 (o := o) ⟨by omega, by omega⟩).mono (fun r w' hp => ?_)
  exact ⟨hp.1, by rw [hp.2, sS_eq h3 ho]⟩

theorem tr_isVariable {b : Nat} (hb : (w 2).1 = b) (hS : SW g w cap t n) (ho : 0 ≤ o ∧ o < n) : pw_M g l yX6_isVariable cX6_isVariable 2 (some .boolean) { frames := 1, cells := 0, slots := 0, locals := 21 } [.ref b, .int (iZ o)] w (fun r w' => w = w' ∧ r = some (.int (iZ (b2i (obV (t o)))))) := by
  subst hb
  obtain ⟨σ, h1, h2, h3⟩ := hS
  have hN := h1.rN
  refine (m_X6_isVariable g l h1 (o := o) ⟨by omega, by omega⟩).mono (fun r w' hp => ?_)
  exact ⟨hp.1, by rw [hp.2, sV_eq h3 ho]⟩

theorem tr_isQuoted {b : Nat} (hb : (w 2).1 = b) (hS : SW g w cap t n) (ho : 0 ≤ o ∧ o < n) : pw_M g l yX6_isQuoted cX6_isQuoted 2 (some .boolean) { frames := 2, cells := 0, slots := 0, locals := 42 } [.ref b, .int (iZ o)] w (fun r w' => w = w' ∧ r = some (.int (iZ (b2i (obQ (t o)))))) := by
  subst hb
  obtain ⟨σ, h1, h2, h3⟩ := hS
  have hN := h1.rN
  refine (m_X6_isQuoted g l h1 (o := o) ⟨by omega, by omega⟩ (sT_hi h3 (by omega))).mono (fun r w' hp => ?_)
  exact ⟨hp.1, by rw [hp.2, sQ_eq h3 ho]⟩

theorem tr_heightOf {b : Nat} (hb : (w 2).1 = b) (hS : SW g w cap t n) (ho : 0 ≤ o ∧ o < n) : pw_M g l yX6_heightOf cX6_heightOf 2 (some .int) { frames := 0, cells := 0, slots := 0, locals := 0 } [.ref b, .int (iZ o)] w (fun r w' => w = w' ∧ r = some (.int (iZ (obHt (t o))))) := by
  subst hb
  obtain ⟨σ, h1, h2, h3⟩ := hS
  have hN := h1.rN
  refine (m_X6_heightOf g l h1 (o := o) ⟨by omega, by omega⟩).mono (fun r w' hp => ?_)
  exact ⟨hp.1, by rw [hp.2, sHt_eq h3 ho]⟩

theorem tr_amount {b : Nat} (hb : (w 2).1 = b) (hS : SW g w cap t n) (ho : 0 ≤ o ∧ o < n) : pw_M g l yX6_amount cX6_amount 2 (some .long) { frames := 1, cells := 0, slots := 0, locals := 21 } [.ref b, .int (iZ o)] w (fun r w' => w = w' ∧ r = some (.long (lZ (obAm (t o))))) := by
  subst hb
  obtain ⟨σ, h1, h2, h3⟩ := hS
  have hN := h1.rN
  refine (m_X6_amount g l h1 (o := o) ⟨by omega, by omega⟩).mono (fun r w' hp => ?_)
  exact ⟨hp.1, by rw [hp.2, sAm_eq h3 ho]⟩

theorem tr_spelling {b : Nat} (hb : (w 2).1 = b) (hS : SW g w cap t n) (ho : 0 ≤ o ∧ o < n) : pw_M g l yX6_spelling cX6_spelling 2 (some .long) { frames := 1, cells := 0, slots := 0, locals := 21 } [.ref b, .int (iZ o)] w (fun r w' => w = w' ∧ r = some (.long (lZ (obSp (t o))))) := by
  subst hb
  obtain ⟨σ, h1, h2, h3⟩ := hS
  have hN := h1.rN
  refine (m_X6_spelling g l h1 (o := o) ⟨by omega, by omega⟩).mono (fun r w' hp => ?_)
  exact ⟨hp.1, by rw [hp.2, sSp_eq h3 ho]⟩

theorem tr_head {b : Nat} (hb : (w 2).1 = b) (hS : SW g w cap t n) (ho : 0 ≤ o ∧ o < n) : pw_M g l yX6_head cX6_head 2 (some .int) { frames := 1, cells := 0, slots := 0, locals := 21 } [.ref b, .int (iZ o)] w (fun r w' => w = w' ∧ ∃ z : Int, r = some (.int (iZ z)) ∧ 0 ≤ z ∧ z < n ∧ t z = obCar (t o)) := by
  subst hb
  obtain ⟨σ, h1, h2, h3⟩ := hS
  have hN := h1.rN
  refine (m_X6_head g l h1 (o := o) ⟨by omega, by omega⟩).mono (fun r w' hp => ?_)
  exact ⟨hp.1, _, hp.2, (sHd_eq h3 ho).1, (sHd_eq h3 ho).2.1, (sHd_eq h3 ho).2.2⟩

theorem tr_tail {b : Nat} (hb : (w 2).1 = b) (hS : SW g w cap t n) (ho : 0 ≤ o ∧ o < n) : pw_M g l yX6_tail cX6_tail 2 (some .int) { frames := 1, cells := 0, slots := 0, locals := 21 } [.ref b, .int (iZ o)] w (fun r w' => w = w' ∧ ∃ z : Int, r = some (.int (iZ z)) ∧ 0 ≤ z ∧ z < n ∧ t z = obCdr (t o)) := by
  subst hb
  obtain ⟨σ, h1, h2, h3⟩ := hS
  have hN := h1.rN
  refine (m_X6_tail g l h1 (o := o) ⟨by omega, by omega⟩).mono (fun r w' hp => ?_)
  exact ⟨hp.1, _, hp.2, (sTl_eq h3 ho).1, (sTl_eq h3 ho).2.1, (sTl_eq h3 ho).2.2⟩

theorem tr_second {b : Nat} (hb : (w 2).1 = b) (hS : SW g w cap t n) (ho : 0 ≤ o ∧ o < n) : pw_M g l yX6_second cX6_second 2 (some .int) { frames := 2, cells := 0, slots := 0, locals := 42 } [.ref b, .int (iZ o)] w (fun r w' => w = w' ∧ ∃ z : Int, r = some (.int (iZ z)) ∧ 0 ≤ z ∧ z < n ∧ t z = obCar (obCdr (t o))) := by
  subst hb
  obtain ⟨σ, h1, h2, h3⟩ := hS
  have hN := h1.rN
  have q1 := sTl_eq h3 ho
  have q2 := sTl_eq h3 ⟨q1.1, q1.2.1⟩
  have q3 := sTl_eq h3 ⟨q2.1, q2.2.1⟩
  refine (m_X6_second g l h1 (o := o) ⟨by omega, by omega⟩).mono (fun r w' hp => ?_)
  have e := sHd_eq h3 ⟨q1.1, q1.2.1⟩
  exact ⟨hp.1, _, hp.2, e.1, e.2.1, by rw [e.2.2, q1.2.2]⟩

theorem tr_third {b : Nat} (hb : (w 2).1 = b) (hS : SW g w cap t n) (ho : 0 ≤ o ∧ o < n) : pw_M g l yX6_third cX6_third 2 (some .int) { frames := 2, cells := 0, slots := 0, locals := 42 } [.ref b, .int (iZ o)] w (fun r w' => w = w' ∧ ∃ z : Int, r = some (.int (iZ z)) ∧ 0 ≤ z ∧ z < n ∧ t z = obCar (obCdr (obCdr (t o)))) := by
  subst hb
  obtain ⟨σ, h1, h2, h3⟩ := hS
  have hN := h1.rN
  have q1 := sTl_eq h3 ho
  have q2 := sTl_eq h3 ⟨q1.1, q1.2.1⟩
  have q3 := sTl_eq h3 ⟨q2.1, q2.2.1⟩
  refine (m_X6_third g l h1 (o := o) ⟨by omega, by omega⟩).mono (fun r w' hp => ?_)
  have e := sHd_eq h3 ⟨q2.1, q2.2.1⟩
  exact ⟨hp.1, _, hp.2, e.1, e.2.1, by rw [e.2.2, q2.2.2, q1.2.2]⟩

theorem tr_fourth {b : Nat} (hb : (w 2).1 = b) (hS : SW g w cap t n) (ho : 0 ≤ o ∧ o < n) : pw_M g l yX6_fourth cX6_fourth 2 (some .int) { frames := 2, cells := 0, slots := 0, locals := 42 } [.ref b, .int (iZ o)] w (fun r w' => w = w' ∧ ∃ z : Int, r = some (.int (iZ z)) ∧ 0 ≤ z ∧ z < n ∧ t z = obCar (obCdr (obCdr (obCdr (t o))))) := by
  subst hb
  obtain ⟨σ, h1, h2, h3⟩ := hS
  have hN := h1.rN
  have q1 := sTl_eq h3 ho
  have q2 := sTl_eq h3 ⟨q1.1, q1.2.1⟩
  have q3 := sTl_eq h3 ⟨q2.1, q2.2.1⟩
  refine (m_X6_fourth g l h1 (o := o) ⟨by omega, by omega⟩).mono (fun r w' hp => ?_)
  have e := sHd_eq h3 ⟨q3.1, q3.2.1⟩
  exact ⟨hp.1, _, hp.2, e.1, e.2.1, by rw [e.2.2, q3.2.2, q2.2.2, q1.2.2]⟩

theorem tr_lengthOf {b : Nat} (hb : (w 2).1 = b) (hS : SW g w cap t n) (ho : 0 ≤ o ∧ o < n) : pw_M g l yX6_lengthOf cX6_lengthOf 4 (some .int) { frames := 2, cells := 0, slots := 0, locals := 42 } [.ref b, .int (iZ o)] w (fun r w' => w = w' ∧ r = some (.int (iZ (obLen (t o))))) := by
  subst hb
  obtain ⟨σ, h1, h2, h3⟩ := hS
  have hN := h1.rN
  refine (m_X6_lengthOf g l h1 (o := o) ⟨by omega, by omega⟩).mono (fun r w' hp => ?_)
  refine ⟨hp.1, ?_⟩
  rw [hp.2]
  unfold sLen
  rw [lenF_eq h3 _ o 0 ho.1 ho.2 (by omega)]
  split
  · rename_i e; rw [e]
  · rw [Int.zero_add]

theorem tr_isElement {b : Nat} (hb : (w 2).1 = b) (hS : SW g w cap t n) {q : Int} (ho : 0 ≤ o ∧ o < n) (hq : 0 ≤ q ∧ q < n) : pw_M g l yX6_isElement cX6_isElement 5 (some .boolean) { frames := 2, cells := 0, slots := 0, locals := 42 } [.ref b, .int (iZ o), .int (iZ q)] w (fun r w' => w = w' ∧ r = some (.int (iZ (b2i (obEl (t o) (t q)))))) := by
  subst hb
  obtain ⟨σ, h1, h2, h3⟩ := hS
  have hN := h1.rN
  refine (m_X6_isElement g l h1 (sT_hi h3 (by omega)) (o := o) (t := q) ⟨by omega, by omega⟩ ⟨by omega, by omega⟩).mono (fun r w' hp => ?_)
  refine ⟨hp.1, ?_⟩
  rw [hp.2]
  unfold sEl
  rw [elF_eq h3 ho _ q hq.1 hq.2 (by omega)]

theorem tr_natural {b : Nat} (hb : (w 2).1 = b) (hS : SW g w cap t n) (hcap : n < cap) {m : Nat} (hm : m < 4611686018427387904) : pw_M g l yX6_natural cX6_natural 3 (some .int) { frames := 2, cells := 0, slots := 0, locals := 51 } [.ref b, .long (lZ (m : Int))] w (fun r w' => sNew g w w' cap t n (.arg m) r) := by
  subst hb
  obtain ⟨σ, h1, h2, h3⟩ := hS
  have hN := h1.rN
  refine (m_X6_natural g l h1 h2 hcap (a := (m : Int)) ⟨by omega, by omega⟩).mono (fun r w' hp => ?_)
  exact sNew_of h1 h2 h3 (Or.inl ⟨rfl, by omega, by simp, rfl⟩) hp

theorem tr_symbol {b : Nat} (hb : (w 2).1 = b) (hS : SW g w cap t n) (hcap : n < cap) {m : Nat} (hm : m < 4611686018427387904) : pw_M g l yX6_symbol cX6_symbol 3 (some .int) { frames := 2, cells := 0, slots := 0, locals := 51 } [.ref b, .long (lZ (m : Int))] w (fun r w' => sNew g w w' cap t n (.index m) r) := by
  subst hb
  obtain ⟨σ, h1, h2, h3⟩ := hS
  have hN := h1.rN
  refine (m_X6_symbol g l h1 h2 hcap (a := (m : Int)) ⟨by omega, by omega⟩).mono (fun r w' hp => ?_)
  exact sNew_of h1 h2 h3 (Or.inr (Or.inl ⟨rfl, by omega, by simp, rfl⟩)) hp

theorem tr_pair {b : Nat} (hb : (w 2).1 = b) (hS : SW g w cap t n) (hcap : n < cap) {x y : Int} (hx : 0 ≤ x ∧ x < n) (hy : 0 ≤ y ∧ y < n) : pw_M g l yX6_pair cX6_pair 3 (some .int) { frames := 2, cells := 0, slots := 0, locals := 51 } [.ref b, .int (iZ x), .int (iZ y)] w (fun r w' => sNew g w w' cap t n (.add (t x) (t y)) r) := by
  subst hb
  obtain ⟨σ, h1, h2, h3⟩ := hS
  have hN := h1.rN
  have kx := sT_ht h3 _ x rfl hx.1 hx.2
  have ky := sT_ht h3 _ y rfl hy.1 hy.2
  refine (m_X6_pair g l h1 h2 hcap (x := x) (y := y) ⟨by omega, by omega⟩ ⟨by omega, by omega⟩ (by rw [sHt_eq h3 hx]; exact ⟨obHt_ge _, by omega⟩) (by rw [sHt_eq h3 hy]; exact ⟨obHt_ge _, by omega⟩)).mono (fun r w' hp => ?_)
  exact sNew_of h1 h2 h3 (Or.inr (Or.inr ⟨hy.1, hy.2, hx.1, hx.2, rfl, by rw [sHt_eq h3 hx, sHt_eq h3 hy]; rfl⟩)) hp

theorem tr_forgetFrom {b : Nat} (hb : (w 2).1 = b) (hS : SW g w cap t n) {q : Int} (hq : 24 ≤ q ∧ q ≤ n) : pw_M g l yX6_forgetFrom cX6_forgetFrom 3 none { frames := 1, cells := 0, slots := 0, locals := 24 } [.ref b, .int (iZ q)] w (fun r w' => r = none ∧ SW g w' cap t q ∧ (w' 2).1 = (w 2).1 ∧ ∀ k, (k < 2 ∨ 7 < k) → w' k = w k) := by
  subst hb
  obtain ⟨σ, h1, h2, h3⟩ := hS
  have hN := h1.rN
  refine (m_X6_forgetFrom g l h1 h2 (q := q) ⟨by omega, by omega⟩).mono (fun r w' hp => ?_)
  obtain ⟨rfl, f4, k1, k2, k3, k4⟩ := hp
  exact ⟨rfl, ⟨_, k1, k2, sT_M h3 hq⟩, k3, k4⟩

theorem tr_makeRoom {b : Nat} (hb : (w 2).1 = b) (hS : SW g w cap t n) {x : Int} (hx : 0 ≤ x ∧ x < 1000000) (hg : rmZ (n + x) ≤ cap) : pw_M g l yX6_makeRoom cX6_makeRoom 3 (some .boolean) { frames := 2, cells := 0, slots := 0, locals := 100 } [.ref b, .int (iZ x)] w (fun r w' => w = w' ∧ r = some (.int (iZ (b2i (decide (n + x ≤ cap)))))) := by
  subst hb
  obtain ⟨σ, h1, h2, h3⟩ := hS
  have hN := h1.rN
  refine (m_X6_makeRoom g l h1 hx hg).mono (fun r w' hp => ?_)
  exact hp

theorem tr_makeRoom_grow {b : Nat} (hb : (w 2).1 = b) (hS : SW g w cap t n) {x : Int} {N : Nat} (hx : 0 ≤ x ∧ x < 1000000) (hg : cap < rmZ (n + x)) (hNz : (N : Int) = rmZ (n + x)) (hT : ∀ k, 83 ≤ k ∧ k ≤ 86 → (w k).2 = none) : pw_M g l yX6_makeRoom cX6_makeRoom 3 (some .boolean) { frames := 2, cells := 4, slots := (4 * N), locals := 100 } [.ref b, .int (iZ x)] w (fun r w' => r = some (.int (iZ (b2i (decide (n + x ≤ N))))) ∧ SW g w' N t n ∧ (w' 2).1 = (w 2).1 ∧ ∀ k, (k < 2 ∨ 7 < k) → w' k = w k) := by
  subst hb
  obtain ⟨σ, h1, h2, h3⟩ := hS
  have hN := h1.rN
  refine (m_X6_makeRoom_grow g l h1 hx hg hNz hT).mono (fun r w' hp => ?_)
  exact ⟨hp.1, ⟨_, hp.2.1, sC_cpy h2 hN.1 hN.2.1, sT_cpy h3 hN.2.1⟩, hp.2.2⟩

end

/-! TREES: what an object is. A natural is .arg, a symbol .index (its spelling), a pair .add -/
abbrev Ob : Type := Term
def kn (k : Nat) : Nat := ([31361, 20, 85168940, 429, 26209844, 345281, 100073763959, 37, 38, 41, 16228223, 6692, 6833, 1456687, 210602393640, 1860108727, 31651, 567772, 2408758, 28780, 20052094, 1880062, 2211412, 1991037] : List Nat).getD k 0
def oNil : Ob := .index (kn 0)
def oT : Ob := .index (kn 1)
def oQuote : Ob := .index (kn 2)
def obHt : Ob → Int
  | .add a b => sMx (obHt a) (obHt b) + 1
  | _ => 0
def obP : Ob → Bool
  | .add _ _ => true
  | _ => false
def obN : Ob → Bool
  | .arg _ => true
  | _ => false
def obS : Ob → Bool
  | .index _ => true
  | _ => false
def obCar : Ob → Ob
  | .add a _ => a
  | _ => oNil
def obCdr : Ob → Ob
  | .add _ b => b
  | _ => oNil
def obAm : Ob → Int
  | .arg m => m
  | _ => 0
def obSp : Ob → Int
  | .index k => k
  | _ => 0
def obV (x : Ob) : Bool := obS x && (decide (x ≠ oNil) && decide (x ≠ oT))
def obQ (x : Ob) : Bool := decide (obCar x = oQuote) && (obP (obCdr x) && decide (obCdr (obCdr x) = oNil))
def obLen : Ob → Int
  | .add _ b => if obLen b = -1 then -1 else obLen b + 1
  | x => if x = oNil then 0 else -1
def obEl (x : Ob) : Ob → Bool
  | .add a b => if a = x then true else obEl x b
  | _ => false
theorem obLen_ge : ∀ x : Ob, -1 ≤ obLen x := by
  intro x
  induction x with
  | add a b ha hb => simp only [obLen]; split <;> omega
  | _ => simp only [obLen]; split <;> omega
/-- one object of the store and its tree -/
def nodeOk (σ : Nat → Int → Int) (t : Int → Ob) (i : Int) : Prop :=
  (σ 1 i = -1 ∧ 0 ≤ σ 0 i ∧ t i = .arg (σ 0 i).toNat ∧ σ 2 i = 0) ∨ (σ 1 i = -2 ∧ 0 ≤ σ 0 i ∧ t i = .index (σ 0 i).toNat ∧ σ 2 i = 0) ∨ (0 ≤ σ 1 i ∧ σ 1 i < i ∧ 0 ≤ σ 0 i ∧ σ 0 i < i ∧ t i = .add (t (σ 0 i)) (t (σ 1 i)) ∧ σ 2 i = obHt (t i))
def sT (σ : Nat → Int → Int) (t : Int → Ob) (n : Int) : Prop :=
  (∀ i, 0 ≤ i → i < n → nodeOk σ t i) ∧ (∀ i j, 0 ≤ i → i < n → 0 ≤ j → j < n → σ 0 i = σ 0 j → σ 1 i = σ 1 j → i = j) ∧ (24 ≤ n ∧ ∀ k : Nat, k < 24 → t (k : Int) = .index (kn k))
def SW (g : pw_P) (w : pw_W) (cap : Nat) (t : Int → Ob) (n : Int) : Prop := ∃ σ, St g w cap σ n ∧ sC σ n ∧ sT σ t n
theorem sMx_le {x z m : Int} (hx : x ≤ m) (hz : z ≤ m) : sMx x z ≤ m := by unfold sMx; split <;> omega
theorem sMx_ge {x z : Int} (hx : 0 ≤ x) (hz : 0 ≤ z) : 0 ≤ sMx x z := by unfold sMx; split <;> omega
theorem obHt_ge : ∀ x : Ob, 0 ≤ obHt x := by
  intro x
  induction x with
  | add a b ha hb => have := sMx_ge ha hb; simp only [obHt]; omega
  | _ => simp [obHt]
theorem sT_ht {σ : Nat → Int → Int} {t : Int → Ob} {n : Int} (h : sT σ t n) : ∀ (k : Nat) (i : Int), i.toNat = k → 0 ≤ i → i < n → obHt (t i) ≤ i := by
  intro k
  induction k using Nat.strongRecOn with
  | ind k ih =>
    intro i hk h0 h1
    rcases h.1 i h0 h1 with ⟨-, -, e, -⟩ | ⟨-, -, e, -⟩ | ⟨b0, b1, a0, a1, e, -⟩
    · rw [e]; simp only [obHt]; exact h0
    · rw [e]; simp only [obHt]; exact h0
    · have ha := ih (σ 0 i).toNat (by omega) (σ 0 i) rfl a0 (by omega)
      have hb := ih (σ 1 i).toNat (by omega) (σ 1 i) rfl b0 (by omega)
      rw [e]
      simp only [obHt]
      have := sMx_le (m := i - 1) (x := obHt (t (σ 0 i))) (z := obHt (t (σ 1 i))) (by omega) (by omega)
      omega
theorem sT_inj {σ : Nat → Int → Int} {t : Int → Ob} {n : Int} (h : sT σ t n) : ∀ (k : Nat) (i j : Int), i.toNat = k → 0 ≤ i → i < n → 0 ≤ j → j < n → t i = t j → i = j := by
  intro k
  induction k using Nat.strongRecOn with
  | ind k ih =>
    intro i j hk h0 h1 g0 g1 e
    rcases h.1 i h0 h1 with ⟨p1, p2, p3, -⟩ | ⟨p1, p2, p3, -⟩ | ⟨b0, b1, a0, a1, p3, -⟩ <;> rcases h.1 j g0 g1 with ⟨q1, q2, q3, -⟩ | ⟨q1, q2, q3, -⟩ | ⟨d0, d1, c0, c1, q3, -⟩
    · rw [p3, q3] at e
      have e2 := Term.arg.inj e
      exact h.2.1 i j h0 h1 g0 g1 (by omega) (by omega)
    · rw [p3, q3] at e; cases e
    · rw [p3, q3] at e; cases e
    · rw [p3, q3] at e; cases e
    · rw [p3, q3] at e
      have e2 := Term.index.inj e
      exact h.2.1 i j h0 h1 g0 g1 (by omega) (by omega)
    · rw [p3, q3] at e; cases e
    · rw [p3, q3] at e; cases e
    · rw [p3, q3] at e; cases e
    · rw [p3, q3] at e
      have e2 := Term.add.inj e
      have ea := ih (σ 0 i).toNat (by omega) (σ 0 i) (σ 0 j) rfl a0 (by omega) c0 (by omega) e2.1
      have eb := ih (σ 1 i).toNat (by omega) (σ 1 i) (σ 1 j) rfl b0 (by omega) d0 (by omega) e2.2
      exact h.2.1 i j h0 h1 g0 g1 ea eb
theorem sT_hi {σ : Nat → Int → Int} {t : Int → Ob} {n : Int} (h : sT σ t n) (hn : n ≤ 16384) : sHI σ n := by
  intro j h0 h1 h2
  rcases h.1 j h0 h1 with ⟨p1, -⟩ | ⟨p1, -⟩ | ⟨b0, b1, a0, a1, -⟩ <;> constructor <;> omega
theorem sP_eq {σ : Nat → Int → Int} {t : Int → Ob} {n o : Int} (h : sT σ t n) (ho : 0 ≤ o ∧ o < n) : sP σ n o = obP (t o) := by
  rcases h.1 o ho.1 ho.2 with ⟨p1, p2, p3, -⟩ | ⟨p1, p2, p3, -⟩ | ⟨b0, b1, a0, a1, p3, -⟩ <;> rw [p3] <;> simp [sP, sK, kP, obP, ho.1, ho.2] <;> omega
theorem sN_eq {σ : Nat → Int → Int} {t : Int → Ob} {n o : Int} (h : sT σ t n) (ho : 0 ≤ o ∧ o < n) : sN σ n o = obN (t o) := by
  rcases h.1 o ho.1 ho.2 with ⟨p1, p2, p3, -⟩ | ⟨p1, p2, p3, -⟩ | ⟨b0, b1, a0, a1, p3, -⟩ <;> rw [p3] <;> simp [sN, sK, kN, obN, ho.1, ho.2] <;> omega
theorem sS_eq {σ : Nat → Int → Int} {t : Int → Ob} {n o : Int} (h : sT σ t n) (ho : 0 ≤ o ∧ o < n) : sS σ n o = obS (t o) := by
  rcases h.1 o ho.1 ho.2 with ⟨p1, p2, p3, -⟩ | ⟨p1, p2, p3, -⟩ | ⟨b0, b1, a0, a1, p3, -⟩ <;> rw [p3] <;> simp [sS, sK, kS, obS, ho.1, ho.2] <;> omega
theorem sT_k {σ : Nat → Int → Int} {t : Int → Ob} {n o : Int} (h : sT σ t n) (ho : 0 ≤ o ∧ o < n) (k : Nat) (hk : k < 24) : o = (k : Int) ↔ t o = .index (kn k) := by
  constructor
  · intro e; rw [e]; exact h.2.2.2 k hk
  · intro e
    exact sT_inj h _ o k rfl ho.1 ho.2 (by omega) (by have := h.2.2.1; omega) (by rw [e, h.2.2.2 k hk])
theorem sHd_eq {σ : Nat → Int → Int} {t : Int → Ob} {n o : Int} (h : sT σ t n) (ho : 0 ≤ o ∧ o < n) : 0 ≤ sHd σ n o ∧ sHd σ n o < n ∧ t (sHd σ n o) = obCar (t o) := by
  unfold sHd
  rw [sP_eq h ho]
  have hn := h.2.2.1
  rcases h.1 o ho.1 ho.2 with ⟨p1, p2, p3, -⟩ | ⟨p1, p2, p3, -⟩ | ⟨b0, b1, a0, a1, p3, -⟩
  · rw [p3]; simp only [obP, obCar]; exact ⟨by simp, by simp; omega, h.2.2.2 0 (by decide)⟩
  · rw [p3]; simp only [obP, obCar]; exact ⟨by simp, by simp; omega, h.2.2.2 0 (by decide)⟩
  · rw [p3]; simp only [obP, obCar, if_true]; exact ⟨a0, by omega, trivial⟩
theorem sTl_eq {σ : Nat → Int → Int} {t : Int → Ob} {n o : Int} (h : sT σ t n) (ho : 0 ≤ o ∧ o < n) : 0 ≤ sTl σ n o ∧ sTl σ n o < n ∧ t (sTl σ n o) = obCdr (t o) := by
  unfold sTl
  rw [sP_eq h ho]
  have hn := h.2.2.1
  rcases h.1 o ho.1 ho.2 with ⟨p1, p2, p3, -⟩ | ⟨p1, p2, p3, -⟩ | ⟨b0, b1, a0, a1, p3, -⟩
  · rw [p3]; simp only [obP, obCdr]; exact ⟨by simp, by simp; omega, h.2.2.2 0 (by decide)⟩
  · rw [p3]; simp only [obP, obCdr]; exact ⟨by simp, by simp; omega, h.2.2.2 0 (by decide)⟩
  · rw [p3]; simp only [obP, obCdr, if_true]; exact ⟨b0, by omega, trivial⟩
theorem sHt_eq {σ : Nat → Int → Int} {t : Int → Ob} {n o : Int} (h : sT σ t n) (ho : 0 ≤ o ∧ o < n) : sHt σ n o = obHt (t o) := by
  unfold sHt
  rw [if_pos ho]
  rcases h.1 o ho.1 ho.2 with ⟨p1, p2, p3, p4⟩ | ⟨p1, p2, p3, p4⟩ | ⟨b0, b1, a0, a1, p3, p4⟩
  · rw [p3, p4]; rfl
  · rw [p3, p4]; rfl
  · rw [p4]
theorem sAm_eq {σ : Nat → Int → Int} {t : Int → Ob} {n o : Int} (h : sT σ t n) (ho : 0 ≤ o ∧ o < n) : sAm σ n o = obAm (t o) := by
  unfold sAm
  rw [sN_eq h ho]
  rcases h.1 o ho.1 ho.2 with ⟨p1, p2, p3, -⟩ | ⟨p1, p2, p3, -⟩ | ⟨b0, b1, a0, a1, p3, -⟩ <;> rw [p3] <;> simp [obN, obAm] <;> omega
theorem sSp_eq {σ : Nat → Int → Int} {t : Int → Ob} {n o : Int} (h : sT σ t n) (ho : 0 ≤ o ∧ o < n) : sSp σ n o = obSp (t o) := by
  unfold sSp
  rw [sS_eq h ho]
  rcases h.1 o ho.1 ho.2 with ⟨p1, p2, p3, -⟩ | ⟨p1, p2, p3, -⟩ | ⟨b0, b1, a0, a1, p3, -⟩ <;> rw [p3] <;> simp [obS, obSp] <;> omega
theorem sV_eq {σ : Nat → Int → Int} {t : Int → Ob} {n o : Int} (h : sT σ t n) (ho : 0 ≤ o ∧ o < n) : sV σ n o = obV (t o) := by
  unfold sV obV
  rw [sS_eq h ho]
  have h0 := sT_k h ho 0 (by decide)
  have h1 := sT_k h ho 1 (by decide)
  congr 2 <;> apply Bool.eq_iff_iff.mpr <;> simp [oNil, oT, ← h0, ← h1]
theorem sQ_eq {σ : Nat → Int → Int} {t : Int → Ob} {n o : Int} (h : sT σ t n) (ho : 0 ≤ o ∧ o < n) : sQ σ n o = obQ (t o) := by
  obtain ⟨a0, a1, a2⟩ := sHd_eq h ho
  obtain ⟨b0, b1, b2⟩ := sTl_eq h ho
  obtain ⟨c0, c1, c2⟩ := sTl_eq h ⟨b0, b1⟩
  unfold sQ obQ
  rw [sP_eq h ⟨b0, b1⟩, b2]
  have h2 := sT_k h ⟨a0, a1⟩ 2 (by decide)
  have h0 := sT_k h ⟨c0, c1⟩ 0 (by decide)
  rw [a2] at h2
  rw [c2, b2] at h0
  congr 1
  · exact Bool.eq_iff_iff.mpr ⟨fun h => decide_eq_true (h2.mp (of_decide_eq_true h)), fun h => decide_eq_true (h2.mpr (of_decide_eq_true h))⟩
  · congr 1
    exact Bool.eq_iff_iff.mpr ⟨fun h => decide_eq_true (h0.mp (of_decide_eq_true h)), fun h => decide_eq_true (h0.mpr (of_decide_eq_true h))⟩
theorem lenF_eq {σ : Nat → Int → Int} {t : Int → Ob} {n : Int} (h : sT σ t n) : ∀ (fu : Nat) (o k : Int), 0 ≤ o → o < n → o < fu → lenF σ n fu o k = if obLen (t o) = -1 then -1 else k + obLen (t o)
  | 0, o, k, h0, h1, h2 => by omega
  | fu + 1, o, k, h0, h1, h2 => by
    rw [lenF, sP_eq h ⟨h0, h1⟩]
    have hz := sT_k h ⟨h0, h1⟩ 0 (by decide)
    by_cases ho : o = 0
    · rw [if_pos ho]
      have e : t o = oNil := hz.mp ho
      rw [e]
      simp [obLen, oNil]
    · rw [if_neg ho]
      have e : t o ≠ oNil := fun q => ho (hz.mpr q)
      rcases h.1 o h0 h1 with ⟨p1, p2, p3, -⟩ | ⟨p1, p2, p3, -⟩ | ⟨b0, b1, a0, a1, p3, -⟩
      · rw [p3] at e ⊢; simp [obP, obLen, e]
      · rw [p3] at e ⊢; simp [obP, obLen, e]
      · have hs : sTl σ n o = σ 1 o := by unfold sTl; rw [sP_eq h ⟨h0, h1⟩, p3]; simp [obP]
        rw [hs, lenF_eq h fu (σ 1 o) (k + 1) b0 (by omega) (by omega), p3]
        simp only [obP, obLen, if_true]
        split
        · simp
        · rename_i hb
          rw [if_neg ?_]
          · omega
          · have : -1 ≤ obLen (t (σ 1 o)) := obLen_ge _
            omega

/-- the names of functions are symbols that are not reserved -/
def TNs (T : List Dn) : Prop := ∀ d ∈ T, 16 < kIx d.1 ∧ obS d.1 = true
theorem TNs.lk {T : List Dn} {Y : Ob} {d : Dn} (h : TNs T) (hd : dLk T Y = some d) : 16 < kIx Y ∧ obS Y = true := by
  obtain ⟨h1, h2⟩ := dLk_mem hd
  have := h d h1
  rw [h2] at this
  exact this
theorem kIx_sym {Y : Ob} (h : kIx Y < 24) : obS Y = true := by
  have := (kIx_eq h).mp rfl
  rw [this]; rfl
theorem arT_ns {T : List Dn} {Y : Ob} (hT : TNs T) (h : obS Y = false) : arT T Y = -1 := by
  unfold arT
  rw [if_neg (fun q => by rw [kIx_sym (by omega)] at h; cases h)]
  cases hd : dLk T Y with
  | none => rfl
  | some d => rw [(hT.lk hd).2] at h; cases h
/-- the reference's number of terms is the class's -/
theorem fn_ar {g : pw_P} {w : pw_W} {B : Nat → Nat} {t : Int → Ob} {n z cm cn : Int} {s : Nat} {fZ : Int → Int} {T T1 : List Dn} {Y : Ob} (hR : RS g w B t n s fZ) (hK : RK t n) (hz : Vl t n z Y) (hT : TNs T) (ho : OwnI t n cm cn T T1) : (fnZ cm z T Y = -1 ∧ arT T1 Y = -1) ∨ (((3 ≤ fnZ cm z T Y ∧ fnZ cm z T Y ≤ 16) ∨ fnZ cm z T Y = 99 ∨ (100 ≤ fnZ cm z T Y ∧ fnZ cm z T Y < 100 + T.length)) ∧ mnZ cn (fnZ cm z T Y) T = arT T1 Y) := by
  have h0 := hz.1
  have hk := RK.kix hR hK hz
  have hrv := RK.rsv hR hK hz
  have hown : T1 = T ∨ ∃ N P, Vl t n cm N ∧ 16 < kIx N ∧ cn = obLen P ∧ T1 = (N, P, oNil) :: T := ho.imp (fun q => q.2) (fun q => q)
  have har : kIx Y ≤ 16 → arT T1 Y = arB (kIx Y) := fun q => by unfold arT; rw [if_pos q]
  by_cases q1 : 3 ≤ z ∧ z ≤ 16
  · right
    have e : fnZ cm z T Y = z := by unfold fnZ; rw [if_pos q1]
    rw [e, har (by omega)]
    refine ⟨Or.inl q1, ?_⟩
    rw [hk, if_pos (by omega)]
    have e5 : mnZ cn z T = (if z = 3 then (3 : Int) else if z ≤ 9 then 2 else 1) := by
      unfold mnZ
      by_cases a1 : z = 3
      · rw [if_pos a1, if_pos a1]
      · by_cases a2 : z ≤ 9
        · rw [if_neg a1, if_neg a1, if_pos a2, if_pos a2]
        · rw [if_neg a1, if_neg a1, if_neg a2, if_neg a2, if_pos q1.2]
    rw [e5]
    have key : ∀ j : Fin 17, 3 ≤ j.val → (if ((j.val : Nat) : Int) = 3 then (3 : Int) else if ((j.val : Nat) : Int) ≤ 9 then 2 else 1) = arB (pm j.val) := by decide
    have := key ⟨z.toNat, by omega⟩ (by show 3 ≤ z.toNat; omega)
    rw [show (((z.toNat : Nat)) : Int) = z by omega] at this
    exact this
  · have e0 : fnZ cm z T Y = if z = cm then 99 else oIx (dIx T Y 0) 100 := by unfold fnZ; rw [if_neg q1]
    by_cases q2 : z < 3
    · left
      have hk2 : kIx Y ≤ 2 := by
        rw [hk, if_pos (by omega)]
        have key : ∀ j : Fin 3, pm j.val ≤ 2 := by decide
        exact key ⟨z.toNat, by omega⟩
      have hd : dLk T Y = none := by
        cases hd : dLk T Y with
        | none => rfl
        | some d => have := (hT.lk hd).1; omega
      have hzc : z ≠ cm := by
        intro e
        rcases ho with ⟨q, -⟩ | ⟨N, P, c1, c2, -⟩
        · omega
        · have := (RS.inj hR hz c1).mp e; rw [this] at hk2; omega
      rw [e0, if_neg hzc, dIx_none.mpr hd]
      refine ⟨rfl, ?_⟩
      rw [har (by omega)]
      have key : ∀ j : Fin 3, arB j.val = -1 := by decide
      exact key ⟨kIx Y, by omega⟩
    · have hk3 : 16 < kIx Y := by have := hrv.1; omega
      by_cases q3 : z = cm
      · right
        rw [e0, if_pos q3]
        refine ⟨Or.inr (Or.inl rfl), ?_⟩
        rcases ho with ⟨q, -⟩ | ⟨N, P, c1, c2, c3, c4⟩
        · omega
        · have hYN := (RS.inj hR hz c1).mp q3
          show mnZ cn 99 T = _
          rw [c4]
          unfold arT
          rw [if_neg (by omega)]
          simp only [dLk]
          rw [if_pos hYN.symm]
          exact c3
      · have hlk : dLk T1 Y = dLk T Y := by
          rcases ho with ⟨-, q⟩ | ⟨N, P, c1, c2, c3, c4⟩
          · rw [q]
          · rw [c4]; simp only [dLk]; rw [if_neg (fun e => q3 ((RS.inj hR hz c1).mpr e.symm))]
        have harT : arT T1 Y = match dLk T Y with | some d => obLen d.2.1 | none => -1 := by unfold arT; rw [if_neg (by omega), hlk]; cases dLk T Y <;> rfl
        rw [e0, if_neg q3]
        cases hd : dIx T Y 0 with
        | none => left; rw [harT, dIx_none.mp hd]; exact ⟨rfl, rfl⟩
        | some j =>
          right
          obtain ⟨d, g1, g2, g3, g4, g5⟩ := dIx_get hd
          rw [Nat.sub_zero] at g1
          show (_ ∨ _ ∨ (100 ≤ 100 + ((j : Nat) : Int) ∧ 100 + ((j : Nat) : Int) < 100 + T.length)) ∧ mnZ cn (100 + ((j : Nat) : Int)) T = _
          refine ⟨Or.inr (Or.inr ⟨by omega, by omega⟩), ?_⟩
          unfold mnZ
          rw [if_neg (by omega), if_neg (by omega), if_neg (by omega), if_neg (by omega), show (100 + ((j : Nat) : Int) - 100).toNat = j by omega, g1, harT, g5]
theorem obQ_eq {X : Ob} (hq : obQ X = true) : X = .add oQuote (.add (obCar (obCdr X)) oNil) := by
  unfold obQ at hq
  simp only [Bool.and_eq_true, decide_eq_true_eq] at hq
  obtain ⟨h1, h2, h3⟩ := hq
  cases X with
  | add a c =>
    have k1 : a = oQuote := h1
    cases c with
    | add d e =>
      have k3 : e = oNil := h3
      rw [k1, k3]; rfl
    | _ => cases h2
  | _ => exact absurd (show oNil = oQuote from h1) (by decide +kernel)
theorem cn_pl {X : Ob} (hq : obQ X = true) : cnO (obCar (obCdr X)) = (pl2 X).1 := by
  by_cases hp : isPc (obCar (obCdr X)) = true
  · rw [pl_q hq, if_pos hp]; unfold cnO; rw [if_pos hp]
  · rw [pl_q hq, if_neg hp]; unfold cnO; rw [if_neg hp]; exact (obQ_eq hq).symm
/-- a term may begin so -/
def bgO (T : List Dn) (X : Ob) : Bool := !obP X || (obQ X || (decide (obCar X ≠ oQuote) && decide (0 ≤ arT T (obCar X) ∧ arT T (obCar X) = obLen (obCdr X))))
theorem pl_nc {X : Ob} (h : obP X = false ∨ obQ X = true) : isCl (pl2 X).1 = false ∧ (sz2 (pl2 X).1).1 = 1 := by
  rcases h with h | h
  · cases X <;> first | exact ⟨rfl, rfl⟩ | cases h
  · have hq := h
    unfold obQ at hq
    simp only [Bool.and_eq_true, decide_eq_true_eq] at hq
    rw [← cn_pl h]
    unfold cnO
    split
    · rename_i hp
      unfold isPc at hp
      cases hX : obCar (obCdr X) with
      | add a c => rw [hX] at hp; exact absurd hp (by simp [obN, oNil, oT])
      | _ => exact ⟨rfl, rfl⟩
    · constructor
      · unfold isCl; rw [decide_eq_false (p := obCar (.add oQuote (.add (obCar (obCdr X)) oNil)) ≠ oQuote) (fun q => q rfl)]; rfl
      · have e : obQ (.add oQuote (.add (obCar (obCdr X)) oNil)) = true := by unfold obQ; simp [obCar, obCdr, obP]
        simp only [sz2]; rw [if_pos e]

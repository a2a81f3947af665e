/-- the reference's object -/
abbrev mdE (B : Nat → Nat) (x : Nat → Int) : va_E := OB 10 [.ref (B 0), .ref (B 1), .ref (B 2), .ref (B 3), .ref (B 4), .ref (B 5), .ref (B 6), .int (iZ (x 7)), .ref (B 8), .ref (B 9), .int (iZ (x 10)), .ref (B 11), .ref (B 12), .int (iZ (x 13)), .ref (B 14), .int (iZ (x 15)), .ref (B 16), .int (iZ (x 17)), .ref (B 18), .int (iZ (x 19)), .int (iZ (x 20)), .int (iZ (x 21)), .int (iZ (x 22)), .ref (B 23), .ref (B 24), .ref (B 25), .ref (B 26), .int (iZ (x 27)), .ref (B 28), .int (iZ (x 29)), .int (iZ (x 30)), .int (iZ (x 31)), .int (iZ (x 32)), .ref (B 33), .ref (B 34), .ref (B 35), .ref (B 36), .int (iZ (x 37)), .int (iZ (x 38)), .int (iZ (x 39)), .int (iZ (x 40)), .int (iZ (x 41)), .ref (B 42), .ref (B 43), .ref (B 44), .int (iZ (x 45)), .ref (B 46), .int (iZ (x 47)), .ref (B 48), .int (iZ (x 49)), .ref (B 50), .int (iZ (x 51)), .ref (B 52), .ref (B 53), .int (iZ (x 54)), .ref (B 55), .ref (B 56), .ref (B 57), .ref (B 58), .ref (B 59), .ref (B 60), .int (iZ (x 61)), .ref (B 62), .int (iZ (x 63)), .int (iZ (x 64)), .int (iZ (x 65)), .int (iZ (x 66)), .int (iZ (x 67)), .ref (B 68), .int (iZ (x 69))]
def symC (fL : Int → Int) : Nat → Nat
  | 0 => 0
  | k + 1 => symC fL k + (if fL (k : Int) = -2 then 1 else 0)
def spW (fM : Int → Int) (b : Int) : Nat → Nat
  | 0 => 0
  | m + 1 => spW fM b m * 47 + (ixZ 1 (fM (b + (m : Int)))).toNat
def shW (fM : Int → Int) (b : Int) : Nat → Int
  | 0 => 5
  | m + 1 => 131 * shW fM b m + fM (b + (m : Int))
def shrM (z : Int) : Int := ((iZ z).toUInt32 >>> ((iZ 2).toUInt32 &&& Int32.toUInt32 31)).toInt32.toInt
def slM (l r : Int) : Int := shrM (l * 40503 + r * 30011 + 7) % 8192
def hiV (v : Int) : Int := (lZ v >>> ((iZ 32).toInt64 &&& 63)).toInt
def slV (v : Int) : Int := slM v (hiV v)
theorem iz_and8191 (z : Int) : (iZ z &&& iZ 8191) = iZ (z % 8192) := by
  apply iz_eqN
  rw [Int32.toBitVec_and, BitVec.toNat_and]
  have h2 : (iZ 8191).toBitVec.toNat = 2 ^ 13 - 1 := by decide
  rw [h2, Nat.and_two_pow_sub_one_eq_mod]
  have := iz_nat z
  omega
theorem slM_in (l r : Int) : 0 ≤ slM l r ∧ slM l r < 8192 := by unfold slM; omega
def ndM (fL fR fH fV fM fE : Int → Int) (t : Int → Ob) (k : Int) : Prop :=
  (fL k = -1 ∧ 0 ≤ fV k ∧ fV k < 4611686018427387904 ∧ t k = .arg (fV k).toNat ∧ fH k = 0) ∨
  (fL k = -2 ∧ fR k = ((symC fL k.toNat : Nat) : Int) ∧ (1 ≤ fE (fR k) ∧ fE (fR k) ≤ 11) ∧ (∀ m : Int, 0 ≤ m → m < fE (fR k) → atL (fM (12 * fR k + m)) = true) ∧ t k = .index (spW fM (12 * fR k) (fE (fR k)).toNat) ∧ fH k = 0) ∨
  (0 ≤ fL k ∧ fL k < k ∧ 0 ≤ fR k ∧ fR k < k ∧ t k = .add (t (fL k)) (t (fR k)) ∧ fH k = obHt (t k))
def hsM (fL fR fV fM fE : Int → Int) (k : Int) : Int := if fL k = -1 then slV (fV k) else if fL k = -2 then shW fM (12 * fR k) (fE (fR k)).toNat % 8192 else slM (fL k) (fR k)
theorem hsM_in (fL fR fV fM fE : Int → Int) (k : Int) : 0 ≤ hsM fL fR fV fM fE k ∧ hsM fL fR fV fM fE k < 8192 := by
  unfold hsM
  split
  · exact slM_in _ _
  · split
    · omega
    · exact slM_in _ _
/-- the newest ahead of k in the slot c -/
def lsH (hs : Int → Int) (c : Int) : Nat → Int
  | 0 => -1
  | k + 1 => if hs (k : Int) = c then (k : Int) else lsH hs c k
theorem lsH_in (hs : Int → Int) (c : Int) : ∀ k : Nat, -1 ≤ lsH hs c k ∧ lsH hs c k < k
  | 0 => by simp [lsH]
  | k + 1 => by
    have := lsH_in hs c k
    unfold lsH
    split <;> omega
theorem lsH_no (hs : Int → Int) (c : Int) : ∀ (k : Nat) (m : Int), lsH hs c k < m → m < k → 0 ≤ m → hs m ≠ c
  | 0, m, _, h2, h3 => by omega
  | k + 1, m, h1, h2, h3 => by
    unfold lsH at h1
    split at h1
    · omega
    · rename_i hk
      by_cases hm : m = k
      · rw [hm]; exact hk
      · exact lsH_no hs c k m h1 (by omega) h3
theorem lsH_is (hs : Int → Int) (c : Int) : ∀ (k : Nat), 0 ≤ lsH hs c k → hs (lsH hs c k) = c
  | 0, h => by simp [lsH] at h
  | k + 1, h => by
    unfold lsH at h ⊢
    split
    · assumption
    · rename_i hk; rw [if_neg hk] at h; exact lsH_is hs c k h
theorem lsH_eq {hs hs' : Int → Int} (c : Int) : ∀ (k : Nat), (∀ m : Int, 0 ≤ m → m < k → hs' m = hs m) → lsH hs' c k = lsH hs c k
  | 0, _ => rfl
  | k + 1, h => by
    unfold lsH
    rw [h k (by omega) (by omega), lsH_eq c k (fun m h0 h1 => h m h0 (by omega))]
theorem symC_eq {f f' : Int → Int} : ∀ (k : Nat), (∀ m : Int, 0 ≤ m → m < k → f' m = f m) → symC f' k = symC f k
  | 0, _ => rfl
  | k + 1, h => by simp only [symC]; rw [h k (by omega) (by omega), symC_eq k (fun m h0 h1 => h m h0 (by omega))]
theorem symC_mono {f : Int → Int} : ∀ {i j : Nat}, i ≤ j → symC f i ≤ symC f j
  | i, 0, h => by rw [Nat.le_zero.mp h]; exact Nat.le_refl _
  | i, j + 1, h => by
    by_cases e : i = j + 1
    · rw [e]; exact Nat.le_refl _
    · have := symC_mono (f := f) (i := i) (j := j) (by omega); simp only [symC]; omega
theorem symC_lt {f : Int → Int} {i j : Nat} (h : i < j) (hi : f (i : Int) = -2) : symC f i < symC f j := by
  have h1 := symC_mono (f := f) (i := i + 1) (j := j) (by omega)
  have h2 : symC f (i + 1) = symC f i + 1 := by simp only [symC]; rw [if_pos hi]
  omega
theorem spW_eq {f f' : Int → Int} {b b' : Int} : ∀ (k : Nat), (∀ m : Int, 0 ≤ m → m < k → f' (b' + m) = f (b + m)) → spW f' b' k = spW f b k
  | 0, _ => rfl
  | k + 1, h => by simp only [spW]; rw [h k (by omega) (by omega), spW_eq k (fun m h0 h1 => h m h0 (by omega))]
theorem shW_eq {f f' : Int → Int} {b b' : Int} : ∀ (k : Nat), (∀ m : Int, 0 ≤ m → m < k → f' (b' + m) = f (b + m)) → shW f' b' k = shW f b k
  | 0, _ => rfl
  | k + 1, h => by simp only [shW]; rw [h k (by omega) (by omega), shW_eq k (fun m h0 h1 => h m h0 (by omega))]
/-- the arrays of the store, by trees -/
def RC (fL fR fN fH fV fD fM fE : Int → Int) (t : Int → Ob) (n : Int) : Prop :=
  (∀ i, 0 ≤ i → i < n → ndM fL fR fH fV fM fE t i) ∧ (∀ i j, 0 ≤ i → i < n → 0 ≤ j → j < n → t i = t j → i = j) ∧ (∀ c : Int, 0 ≤ c → c < 8192 → fD c = lsH (hsM fL fR fV fM fE) c n.toNat) ∧ (∀ i : Int, 0 ≤ i → i < n → fN i = lsH (hsM fL fR fV fM fE) (hsM fL fR fV fM fE i) i.toNat)
theorem RC.push {fL fR fN fH fV fD fM fE fV' fM' fE' : Int → Int} {t : Int → Ob} {n l r hh h : Int} {X : Ob} (hC : RC fL fR fN fH fV fD fM fE t n) (hn : 0 ≤ n) (hV : ∀ j : Int, 0 ≤ j → j < n → fV' j = fV j) (hE : ∀ j : Int, 0 ≤ j → j < ((symC fL n.toNat : Nat) : Int) → fE' j = fE j ∧ ∀ m : Int, 0 ≤ m → m < 12 → fM' (12 * j + m) = fM (12 * j + m)) (hX : ∀ k : Int, 0 ≤ k → k < n → t k ≠ X)
    (hnd : ndM (upz fL n l) (upz fR n r) (upz fH n hh) fV' fM' fE' (tUp t n X) n) (hhs : h = hsM (upz fL n l) (upz fR n r) fV' fM' fE' n) : RC (upz fL n l) (upz fR n r) (upz fN n (fD h)) (upz fH n hh) fV' (upz fD h n) fM' fE' (tUp t n X) (n + 1) := by
  obtain ⟨c1, c2, c3, c4⟩ := hC
  have eL : ∀ j : Int, 0 ≤ j → j < n → upz fL n l j = fL j := fun j _ hj => upz_ne _ _ (by omega)
  have eR : ∀ j : Int, 0 ≤ j → j < n → upz fR n r j = fR j := fun j _ hj => upz_ne _ _ (by omega)
  have eH : ∀ j : Int, 0 ≤ j → j < n → upz fH n hh j = fH j := fun j _ hj => upz_ne _ _ (by omega)
  have eT : ∀ j : Int, 0 ≤ j → j < n → tUp t n X j = t j := fun j _ hj => tUp_ne _ _ (by omega)
  have eS : ∀ j : Int, 0 ≤ j → j < n → symC (upz fL n l) j.toNat = symC fL j.toNat := fun j h0 hj => symC_eq _ (fun m m0 m1 => eL m m0 (by omega))
  have eHs : ∀ j : Int, 0 ≤ j → j < n → hsM (upz fL n l) (upz fR n r) fV' fM' fE' j = hsM fL fR fV fM fE j := by
    intro j h0 hj
    unfold hsM
    rw [eL j h0 hj, eR j h0 hj, hV j h0 hj]
    split
    · rfl
    · split
      · rename_i q
        rcases c1 j h0 hj with d | d | d
        · rw [q] at d; exact absurd d.1 (by decide)
        · have hs := symC_lt (f := fL) (i := j.toNat) (j := n.toNat) (by omega) (by rw [show ((j.toNat : Nat) : Int) = j by omega]; exact q)
          have e := hE (fR j) (by rw [d.2.1]; omega) (by rw [d.2.1]; omega)
          rw [e.1, shW_eq (f := fM) (b := 12 * fR j) _ (fun m m0 m1 => e.2 m m0 (by have := d.2.2.1; omega))]
        · rw [q] at d; exact absurd d.1 (by decide)
      · rfl
  refine ⟨fun i h0 h1 => ?_, fun i j i0 i1 j0 j1 e => ?_, fun c h0 h1 => ?_, fun i h0 h1 => ?_⟩
  · by_cases q : i = n
    · rw [q]; exact hnd
    · have hi : i < n := by omega
      unfold ndM
      rw [eL i h0 hi, eR i h0 hi, eH i h0 hi, eT i h0 hi, hV i h0 hi, eS i h0 hi]
      rcases c1 i h0 hi with d | d | d
      · exact Or.inl d
      · have hs := symC_lt (f := fL) (i := i.toNat) (j := n.toNat) (by omega) (by rw [show ((i.toNat : Nat) : Int) = i by omega]; exact d.1)
        have e := hE (fR i) (by rw [d.2.1]; omega) (by rw [d.2.1]; omega)
        refine Or.inr (Or.inl ⟨d.1, d.2.1, by rw [e.1]; exact d.2.2.1, fun m m0 m1 => ?_, ?_, d.2.2.2.2.2⟩)
        · rw [e.1] at m1; rw [e.2 m m0 (by have := d.2.2.1; omega)]; exact d.2.2.2.1 m m0 m1
        · rw [e.1, spW_eq (f := fM) (b := 12 * fR i) _ (fun m m0 m1 => e.2 m m0 (by have := d.2.2.1; omega))]; exact d.2.2.2.2.1
      · refine Or.inr (Or.inr ⟨d.1, d.2.1, d.2.2.1, d.2.2.2.1, ?_, d.2.2.2.2.2⟩)
        rw [eT _ d.1 (by omega), eT _ d.2.2.1 (by omega)]; exact d.2.2.2.2.1
  · by_cases qi : i = n
    · by_cases qj : j = n
      · omega
      · rw [qi, tUp_self, eT j j0 (by omega)] at e; exact absurd e.symm (hX j j0 (by omega))
    · by_cases qj : j = n
      · rw [qj, tUp_self, eT i i0 (by omega)] at e; exact absurd e (hX i i0 (by omega))
      · rw [eT i i0 (by omega), eT j j0 (by omega)] at e; exact c2 i j i0 (by omega) j0 (by omega) e
  · rw [show (n + 1).toNat = n.toNat + 1 by omega, lsH, show ((n.toNat : Nat) : Int) = n by omega, ← hhs]
    by_cases q : h = c
    · rw [if_pos q, ← q, upz_self]
    · rw [if_neg q, upz_ne _ _ (fun k => q k.symm), lsH_eq c n.toNat (fun m m0 m1 => eHs m m0 (by omega))]; exact c3 c h0 h1
  · by_cases q : i = n
    · rw [q, upz_self, ← hhs, lsH_eq h n.toNat (fun m m0 m1 => eHs m m0 (by omega))]
      have := hsM_in (upz fL n l) (upz fR n r) fV' fM' fE' n
      exact c3 h (by omega) (by omega)
    · rw [upz_ne _ _ q, eHs i h0 (by omega), lsH_eq _ i.toNat (fun m m0 m1 => eHs m m0 (by omega))]; exact c4 i h0 (by omega)
theorem RC.pop {fL fR fN fH fV fD fM fE : Int → Int} {t : Int → Ob} {n : Int} (hC : RC fL fR fN fH fV fD fM fE t n) (hn : 0 < n) : RC fL fR fN fH fV (upz fD (hsM fL fR fV fM fE (n - 1)) (fN (n - 1))) fM fE t (n - 1) := by
  obtain ⟨c1, c2, c3, c4⟩ := hC
  refine ⟨fun i h0 h1 => c1 i h0 (by omega), fun i j i0 i1 j0 j1 e => c2 i j i0 (by omega) j0 (by omega) e, fun c h0 h1 => ?_, fun i h0 h1 => c4 i h0 (by omega)⟩
  have e := c3 c h0 h1
  rw [show n.toNat = (n - 1).toNat + 1 by omega, lsH, show (((n - 1).toNat : Nat) : Int) = n - 1 by omega] at e
  by_cases q : hsM fL fR fV fM fE (n - 1) = c
  · rw [q, upz_self, ← q]; exact c4 (n - 1) (by omega) (by omega)
  · rw [if_neg q] at e; rw [upz_ne _ _ (fun k => q k.symm)]; exact e
/-- the reference's store: trees, how many, how many symbols, sizes -/
def RS (g : pw_P) (w : pw_W) (B : Nat → Nat) (t : Int → Ob) (n : Int) (s : Nat) (fZ : Int → Int) : Prop :=
  ∃ fL fR fN fH fV fD fM fE : Int → Int, w 1001 = (B 0, some (AI g 40000 fL)) ∧ w 1002 = (B 1, some (AI g 40000 fR)) ∧ w 1003 = (B 2, some (AI g 40000 fN)) ∧ w 1004 = (B 3, some (AI g 40000 fZ)) ∧ w 1005 = (B 4, some (AI g 40000 fH)) ∧ w 1006 = (B 5, some (AJ g 40000 fV)) ∧ w 1007 = (B 6, some (AI g 8192 fD)) ∧ w 1009 = (B 8, some (AI g 48000 fM)) ∧ w 1010 = (B 9, some (AI g 4000 fE)) ∧ ((∀ j, inI (fL j)) ∧ (∀ j, inI (fR j)) ∧ (∀ j, inI (fN j)) ∧ (∀ j, inI (fZ j)) ∧ (∀ j, inI (fH j)) ∧ (∀ j, inL (fV j)) ∧ (∀ j, inI (fD j)) ∧ (∀ j, inI (fM j)) ∧ (∀ j, inI (fE j))) ∧ (0 ≤ n ∧ n ≤ 40000) ∧ s = symC fL n.toNat ∧ s ≤ 4000 ∧ RC fL fR fN fH fV fD fM fE t n
theorem RS.same {g : pw_P} {w w' : pw_W} {B : Nat → Nat} {t : Int → Ob} {n : Int} {s : Nat} {fZ : Int → Int} (h : RS g w B t n s fZ) (hf : ∀ k, (1001 ≤ k ∧ k ≤ 1010 ∧ k ≠ 1008) → w' k = w k) : RS g w' B t n s fZ := by
  obtain ⟨fL, fR, fN, fH, fV, fD, fM, fE, a0, a1, a2, a3, a4, a5, a6, a8, a9, rest⟩ := h
  exact ⟨fL, fR, fN, fH, fV, fD, fM, fE, (hf 1001 (by omega)).trans a0, (hf 1002 (by omega)).trans a1, (hf 1003 (by omega)).trans a2, (hf 1004 (by omega)).trans a3, (hf 1005 (by omega)).trans a4, (hf 1006 (by omega)).trans a5, (hf 1007 (by omega)).trans a6, (hf 1009 (by omega)).trans a8, (hf 1010 (by omega)).trans a9, rest⟩
theorem RC.ht {fL fR fN fH fV fD fM fE : Int → Int} {t : Int → Ob} {n : Int} (h : RC fL fR fN fH fV fD fM fE t n) : ∀ (k : Nat) (i : Int), i.toNat = k → 0 ≤ i → i < n → obHt (t i) ≤ i ∧ fH i = obHt (t i) := by
  intro k
  induction k using Nat.strongRecOn with
  | ind k ih =>
    intro i hk h0 h1
    rcases h.1 i h0 h1 with d | d | d
    · rw [d.2.2.2.1, d.2.2.2.2]; exact ⟨h0, rfl⟩
    · rw [d.2.2.2.2.1, d.2.2.2.2.2]; exact ⟨h0, rfl⟩
    · have e1 := (ih (fL i).toNat (by omega) (fL i) rfl d.1 (by omega)).1
      have e2 := (ih (fR i).toNat (by omega) (fR i) rfl d.2.2.1 (by omega)).1
      refine ⟨?_, d.2.2.2.2.2⟩
      rw [d.2.2.2.2.1]
      simp only [obHt]
      have := sMx_le (x := obHt (t (fL i))) (z := obHt (t (fR i))) (m := i - 1) (by omega) (by omega)
      omega

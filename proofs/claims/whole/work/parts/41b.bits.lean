/-! THE BYTES OF A NUMBER -/
def byB (a : Int) (s : Nat) : Int := a % 4294967296 / ((2 ^ s : Nat) : Int) % 256
theorem byB_in (a : Int) (s : Nat) : 0 ≤ byB a s ∧ byB a s < 256 := by
  unfold byB
  exact ⟨Int.emod_nonneg _ (by decide), Int.emod_lt_of_pos _ (by decide)⟩
theorem iz_bv (a : Int) : (iZ a).toBitVec = BitVec.ofInt 32 a := rfl
theorem iz_eqN {x : Int32} {z : Int} (h : (x.toBitVec.toNat : Int) = z % 4294967296) : x = iZ z := by
  apply Int32.toBitVec_inj.mp
  apply BitVec.eq_of_toNat_eq
  rw [iz_bv, BitVec.toNat_ofInt]
  omega
theorem iz_nat (a : Int) : ((iZ a).toBitVec.toNat : Int) = a % 4294967296 := by
  rw [iz_bv, BitVec.toNat_ofInt]
  omega
theorem iz_and255 (z : Int) : (iZ z &&& iZ 255) = iZ (z % 256) := by
  apply iz_eqN
  rw [Int32.toBitVec_and, BitVec.toNat_and]
  have h2 : (iZ 255).toBitVec.toNat = 2 ^ 8 - 1 := by decide
  rw [h2, Nat.and_two_pow_sub_one_eq_mod]
  have := iz_nat z
  omega
theorem iz_ushr {a : Int} {s : Nat} (hs : s = 24 ∨ s = 16 ∨ s = 8 ∨ s = 0) : ((iZ a).toUInt32 >>> ((iZ (s : Int)).toUInt32 &&& Int32.toUInt32 31)).toInt32 = iZ (a % 4294967296 / ((2 ^ s : Nat) : Int)) := by
  apply iz_eqN
  have h1 := iz_nat a
  have e : ∀ u : UInt32, ((iZ a).toUInt32 >>> u).toInt32.toBitVec.toNat = (iZ a).toBitVec.toNat >>> (u.toNat % 32) := by
    intro u
    show ((iZ a).toUInt32 >>> u).toNat = _
    rw [UInt32.toNat_shiftRight]
    rfl
  rw [e, Nat.shiftRight_eq_div_pow]
  rcases hs with rfl | rfl | rfl | rfl
  · rw [show ((iZ ((24 : Nat) : Int)).toUInt32 &&& Int32.toUInt32 31).toNat % 32 = 24 by decide]; omega
  · rw [show ((iZ ((16 : Nat) : Int)).toUInt32 &&& Int32.toUInt32 31).toNat % 32 = 16 by decide]; omega
  · rw [show ((iZ ((8 : Nat) : Int)).toUInt32 &&& Int32.toUInt32 31).toNat % 32 = 8 by decide]; omega
  · rw [show ((iZ ((0 : Nat) : Int)).toUInt32 &&& Int32.toUInt32 31).toNat % 32 = 0 by decide]; omega
theorem iz_shr {a : Int} (ha : inI a) {s : Nat} (hs : s = 24 ∨ s = 16 ∨ s = 8 ∨ s = 0) : (iZ a >>> (iZ (s : Int) &&& 31)) = iZ (a / ((2 ^ s : Nat) : Int)) := by
  have e : ∀ u : Int32, u.toBitVec.toNat < 32 → (iZ a >>> u).toInt = (iZ a).toInt >>> u.toBitVec.toNat := by
    intro u hu
    show ((iZ a).toBitVec.sshiftRight' (u.toBitVec.smod 32)).toInt = _
    have h0 : u.toBitVec.smod 32 = u.toBitVec := by
      apply BitVec.eq_of_toInt_eq
      rw [BitVec.toInt_smod, BitVec.toInt_eq_toNat_of_lt (by omega)]
      show Int.fmod _ 32 = _
      rw [Int.fmod_eq_emod_of_nonneg _ (by decide)]
      omega
    rw [h0]
    show ((iZ a).toBitVec.sshiftRight u.toBitVec.toNat).toInt = _
    rw [BitVec.toInt_sshiftRight]
    rfl
  apply Int32.toInt_inj.mp
  have hd : ∀ k : Nat, k ≤ 24 → inI (a / ((2 ^ k : Nat) : Int)) := by
    intro k _
    have hp : (0 : Int) < ((2 ^ k : Nat) : Int) := by have := Nat.two_pow_pos k; omega
    constructor
    · rw [Int.le_ediv_iff_mul_le hp]
      have h1 := ha.1
      have h2 : (1 : Int) ≤ ((2 ^ k : Nat) : Int) := by omega
      exact Int.le_trans (by generalize ((2 ^ k : Nat) : Int) = M at h2; omega) h1
    · rw [Int.ediv_lt_iff_lt_mul hp]
      have h1 := ha.2
      have h2 : (1 : Int) ≤ ((2 ^ k : Nat) : Int) := by omega
      exact Int.lt_of_lt_of_le h1 (by generalize ((2 ^ k : Nat) : Int) = M at h2; omega)
  rcases hs with rfl | rfl | rfl | rfl
  · rw [e _ (by decide), iz_toInt ha, iz_toInt (hd 24 (by decide)), show (iZ ((24 : Nat) : Int) &&& 31).toBitVec.toNat = 24 by decide, Int.shiftRight_eq_div_pow]
  · rw [e _ (by decide), iz_toInt ha, iz_toInt (hd 16 (by decide)), show (iZ ((16 : Nat) : Int) &&& 31).toBitVec.toNat = 16 by decide, Int.shiftRight_eq_div_pow]
  · rw [e _ (by decide), iz_toInt ha, iz_toInt (hd 8 (by decide)), show (iZ ((8 : Nat) : Int) &&& 31).toBitVec.toNat = 8 by decide, Int.shiftRight_eq_div_pow]
  · rw [e _ (by decide), iz_toInt ha, iz_toInt (hd 0 (by decide)), show (iZ ((0 : Nat) : Int) &&& 31).toBitVec.toNat = 0 by decide, Int.shiftRight_eq_div_pow]
theorem byB_u {a : Int} {s : Nat} : a % 4294967296 / ((2 ^ s : Nat) : Int) % 256 = byB a s := rfl
theorem byB_s {a : Int} {s : Nat} (hs : s = 24 ∨ s = 16 ∨ s = 8 ∨ s = 0) : a / ((2 ^ s : Nat) : Int) % 256 = byB a s := by
  unfold byB
  rcases hs with rfl | rfl | rfl | rfl <;> simp <;> omega
theorem iz_char {z : Int} (h : 0 ≤ z ∧ z < 256) : ((iZ z).toUInt32 % 65536).toInt32 = iZ z := by
  apply iz_eqN
  show (((iZ z).toUInt32 % 65536).toNat : Int) = _
  rw [UInt32.toNat_mod]
  have := iz_nat z
  have e : (iZ z).toUInt32.toNat = (iZ z).toBitVec.toNat := rfl
  rw [e, show (65536 : UInt32).toNat = 65536 from rfl]
  omega
/-- a byte of what waits -/
def wbA (f : Int → Int) (i : Int) : Int := byB (f (i / 4)) (24 - i % 4 * 8).toNat
/-- how many that are not 0 -/
def nzC (f : Int → Int) : Nat → Nat
  | 0 => 0
  | k + 1 => nzC f k + (if f (k : Int) = 0 then 0 else 1)
theorem nzC_mono {f : Int → Int} : ∀ {i j : Nat}, i ≤ j → nzC f i ≤ nzC f j
  | i, 0, h => by rw [Nat.le_zero.mp h]; exact Nat.le_refl _
  | i, j + 1, h => by
    by_cases e : i = j + 1
    · rw [e]; exact Nat.le_refl _
    · have := nzC_mono (f := f) (i := i) (j := j) (by omega); simp only [nzC]; omega
theorem nzC_le {f : Int → Int} : ∀ k : Nat, nzC f k ≤ k
  | 0 => Nat.le_refl _
  | k + 1 => by have := nzC_le (f := f) k; simp only [nzC]; split <;> omega
theorem nzC_one {f : Int → Int} {i : Nat} (h : f (i : Int) ≠ 0) : nzC f (i + 1) = nzC f i + 1 := by simp only [nzC]; rw [if_neg h]
theorem nzC_same {f f' : Int → Int} : ∀ {k : Nat}, (∀ j : Int, 0 ≤ j → j < k → f' j = f j) → nzC f' k = nzC f k
  | 0, _ => rfl
  | k + 1, h => by simp only [nzC]; rw [nzC_same (k := k) (fun j h0 h1 => h j h0 (by omega)), h k (by omega) (by omega)]

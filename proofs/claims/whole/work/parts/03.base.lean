/-! NUMBERS: an int is the wrapping of an integer, a long too -/
abbrev iZ (z : Int) : Int32 := Int32.ofInt z
abbrev lZ (z : Int) : Int64 := Int64.ofInt z
abbrev inI (z : Int) : Prop := -2147483648 ≤ z ∧ z < 2147483648
abbrev inL (z : Int) : Prop := -9223372036854775808 ≤ z ∧ z < 9223372036854775808
theorem iz_toInt {z : Int} (h : inI z) : (iZ z).toInt = z := Int32.toInt_ofInt_of_le (by omega) (by omega)
theorem lz_toInt {z : Int} (h : inL z) : (lZ z).toInt = z := Int64.toInt_ofInt_of_le (by omega) (by omega)
theorem iz_of (x : Int32) : ∃ z : Int, inI z ∧ x = iZ z := ⟨x.toInt, ⟨by have := x.le_toInt; omega, by have := x.toInt_lt; omega⟩, (Int32.ofInt_toInt x).symm⟩
theorem lz_of (x : Int64) : ∃ z : Int, inL z ∧ x = lZ z := ⟨x.toInt, ⟨by have := x.le_toInt; omega, by have := x.toInt_lt; omega⟩, (Int64.ofInt_toInt x).symm⟩
theorem iz_eq {a b : Int} (ha : inI a) (hb : inI b) : iZ a = iZ b ↔ a = b := by
  rw [← Int32.toInt_inj, iz_toInt ha, iz_toInt hb]
theorem iz_lt {a b : Int} (ha : inI a) (hb : inI b) : iZ a < iZ b ↔ a < b := by
  rw [Int32.lt_iff_toInt_lt, iz_toInt ha, iz_toInt hb]
theorem iz_le {a b : Int} (ha : inI a) (hb : inI b) : iZ a ≤ iZ b ↔ a ≤ b := by
  rw [Int32.le_iff_toInt_le, iz_toInt ha, iz_toInt hb]
theorem lz_eq {a b : Int} (ha : inL a) (hb : inL b) : lZ a = lZ b ↔ a = b := by
  rw [← Int64.toInt_inj, lz_toInt ha, lz_toInt hb]
theorem lz_lt {a b : Int} (ha : inL a) (hb : inL b) : lZ a < lZ b ↔ a < b := by
  rw [Int64.lt_iff_toInt_lt, lz_toInt ha, lz_toInt hb]
theorem lz_le {a b : Int} (ha : inL a) (hb : inL b) : lZ a ≤ lZ b ↔ a ≤ b := by
  rw [Int64.le_iff_toInt_le, lz_toInt ha, lz_toInt hb]
theorem iz_add (a b : Int) : iZ a + iZ b = iZ (a + b) := by first | exact (Int32.ofInt_add a b).symm | simp [Int32.ofInt_add]
theorem iz_sub (a b : Int) : iZ a - iZ b = iZ (a - b) := by first | exact (Int32.ofInt_sub a b).symm | simp [Int32.ofInt_sub]
theorem iz_mul (a b : Int) : iZ a * iZ b = iZ (a * b) := by first | exact (Int32.ofInt_mul a b).symm | simp [Int32.ofInt_mul]
theorem lz_add (a b : Int) : lZ a + lZ b = lZ (a + b) := by first | exact (Int64.ofInt_add a b).symm | simp [Int64.ofInt_add]
theorem lz_sub (a b : Int) : lZ a - lZ b = lZ (a - b) := by first | exact (Int64.ofInt_sub a b).symm | simp [Int64.ofInt_sub]
theorem lz_mul (a b : Int) : lZ a * lZ b = lZ (a * b) := by first | exact (Int64.ofInt_mul a b).symm | simp [Int64.ofInt_mul]
theorem iz_clamp {z : Int} (h : inI z) : (iZ z).toNatClampNeg = z.toNat := by
  rw [← Int32.toNat_toInt, iz_toInt h]
theorem iz_in {z : Int} {n : Nat} (h0 : 0 ≤ z) (h1 : z < n) (h2 : z < 2147483648) : vp_in (iZ z) n := by
  rw [vp_in_iff, iz_toInt ⟨by omega, h2⟩]
  exact ⟨h0, h1⟩
theorem iz_i2l {z : Int} (h : inI z) : (iZ z).toInt64 = lZ z := by
  apply Int64.toInt_inj.mp
  rw [Int32.toInt_toInt64, iz_toInt h, lz_toInt ⟨by omega, by omega⟩]
theorem iz_l2i (z : Int) : (lZ z).toInt32 = iZ z := by
  apply Int32.toInt_inj.mp
  first | (simp [Int64.toInt_toInt32]; done) | (rw [Int64.toInt_toInt32]; simp; omega)
def b2i (b : Bool) : Int := if b then 1 else 0
theorem b2i_in (b : Bool) : inI (b2i b) := by cases b <;> decide
theorem b2i_nar (b : Bool) : narrow .boolean (.int (iZ (b2i b))) = .int (iZ (b2i b)) := by cases b <;> decide +kernel
theorem b2i_fit (b : Bool) : fits .boolean (.int (iZ (b2i b))) = true := by cases b <;> decide +kernel
/-! WORLDS by places: a place's address and what lies there -/
abbrev pw_W : Type := Nat → Nat × Option va_E
/-- the classes' numbers, the array classes, the base, the addresses of the constants -/
abbrev pw_P : Type := va_G × (Nat → ClassId) × Nat × (Nat → Nat)
abbrev pw_B (g : pw_P) : Nat := g.2.2.1
abbrev pw_A (g : pw_P) : Nat → Prop := fun q => g.2.2.1 ≤ q
def pw_tys (k : Nat → ClassId) : List (ClassId × FieldType) := [(k 0, .int), (k 1, .long), (k 2, .char), (k 3, .boolean), (k 4, .object "LispMachine$Definition"), (k 5, .object "LispMachine$Call")]
def pw_K (g : pw_P) (U : State) : Prop := va_K g.1 vwCl (pw_tys g.2.1) U
def AI (g : pw_P) (n : Nat) (f : Int → Int) : va_E := .inl (g.2.1 0, n, .inl (fun (j : Nat) => iZ (f (j : Int))))
def AJ (g : pw_P) (n : Nat) (f : Int → Int) : va_E := .inl (g.2.1 1, n, .inr (.inl (fun (j : Nat) => lZ (f (j : Int)))))
def AC (g : pw_P) (n : Nat) (f : Int → Int) : va_E := .inl (g.2.1 2, n, .inl (fun (j : Nat) => iZ (f (j : Int))))
def AZ (g : pw_P) (n : Nat) (f : Int → Int) : va_E := .inl (g.2.1 3, n, .inl (fun (j : Nat) => iZ (f (j : Int))))
def AR (g : pw_P) (t n : Nat) (f : Nat → Option Nat) : va_E := .inl (g.2.1 t, n, .inr (.inr (.inr (.inr f))))
def upz (f : Int → Int) (i x : Int) : Int → Int := fun j => if j = i then x else f j
theorem upz_self (f : Int → Int) (i x : Int) : upz f i x i = x := by simp [upz]
theorem upz_ne (f : Int → Int) {i j : Int} (x : Int) (h : j ≠ i) : upz f i x j = f j := by simp [upz, h]
abbrev OB (ci : Nat) (fs : List Value) : va_E := .inr (ci, fs)
def pw_H (g : pw_P) (w : pw_W) (H : Heap) : Prop :=
  (∀ (k a : Nat) (e : va_E), w k = (a, some e) → va_at g.1 vwCl (a, e) H ∧ pw_B g ≤ a) ∧ ∀ (j k a : Nat) (e e' : va_E), w j = (a, some e) → w k = (a, some e') → j = k
theorem pw_H.put {g : pw_P} {w : pw_W} {H H1 : Heap} {k a : Nat} {e0 e : va_E} (h : pw_H g w H) (hk : w k = (a, some e0)) (he : va_at g.1 vwCl (a, e) H1) (oq : ∀ q : Nat, q ≠ a → H1[q]? = H[q]?) : pw_H g (va_up w k (a, some e)) H1 := by
  refine ⟨fun j b f hj => ?_, fun i j b f f' hi hj => ?_⟩
  · by_cases hjk : j = k
    · subst hjk
      rw [va_up_self] at hj
      cases hj
      exact ⟨he, (h.1 _ _ _ hk).2⟩
    · rw [va_up_ne _ _ hjk] at hj
      have h1 := h.1 j b f hj
      refine ⟨h1.1.kept (oq b fun hb => ?_), h1.2⟩
      subst hb
      exact hjk (h.2 _ _ _ _ _ hj hk)
  · by_cases hik : i = k
    · subst hik
      by_cases hjk : j = i
      · exact hjk.symm
      · rw [va_up_self] at hi
        rw [va_up_ne _ _ hjk] at hj
        cases hi
        exact absurd (h.2 _ _ _ _ _ hj hk) hjk
    · rw [va_up_ne _ _ hik] at hi
      by_cases hjk : j = k
      · subst hjk
        rw [va_up_self] at hj
        cases hj
        exact absurd (h.2 _ _ _ _ _ hi hk) hik
      · rw [va_up_ne _ _ hjk] at hj
        exact h.2 _ _ _ _ _ hi hj
theorem pw_H.new {g : pw_P} {w : pw_W} {H H1 : Heap} {e : va_E} (h : pw_H g w H) (oq : ∀ q : Nat, q < H.size → H1[q]? = H[q]?) (he : va_at g.1 vwCl (H.size, e) H1) (hB : pw_B g ≤ H.size) (k : Nat) : pw_H g (va_up w k (H.size, some e)) H1 := by
  refine ⟨fun j b f hj => ?_, fun i j b f f' hi hj => ?_⟩
  · by_cases hjk : j = k
    · subst hjk
      rw [va_up_self] at hj
      cases hj
      exact ⟨he, hB⟩
    · rw [va_up_ne _ _ hjk] at hj
      have h1 := h.1 j b f hj
      exact ⟨h1.1.kept (oq b h1.1.lt), h1.2⟩
  · by_cases hik : i = k
    · subst hik
      by_cases hjk : j = i
      · exact hjk.symm
      · rw [va_up_self] at hi
        rw [va_up_ne _ _ hjk] at hj
        cases hi
        have h1 := (h.1 _ _ _ hj).1.lt
        exact absurd h1 (Nat.lt_irrefl _)
    · rw [va_up_ne _ _ hik] at hi
      by_cases hjk : j = k
      · subst hjk
        rw [va_up_self] at hj
        cases hj
        have h1 := (h.1 _ _ _ hi).1.lt
        exact absurd h1 (Nat.lt_irrefl _)
      · rw [va_up_ne _ _ hjk] at hj
        exact h.2 _ _ _ _ _ hi hj
theorem pw_H.one {g : pw_P} {w : pw_W} {H : Heap} (h : pw_H g w H) {k a : Nat} {e : va_E} (hk : w k = (a, some e)) : va_P g.1 vwCl [(a, e)] H := by
  intro i q hq
  cases i with
  | zero => cases hq; exact (h.1 k a e hk).1
  | succ i => cases hq

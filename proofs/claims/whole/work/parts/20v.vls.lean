section
variable {g : pw_P} {l : Launch} {w : pw_W} {b cap : Nat} {t : Int → Ob} {n o q : Int} {X Y : Ob}
theorem SB.ok (hS : SB g w b cap t n) (hX : Vl t n o X) : obOk X := by have := hS.2.2 o hX.1 hX.2.1; rw [hX.2.2] at this; exact this
/-- a new object, by trees -/
def vNew (g : pw_P) (w w' : pw_W) (b cap : Nat) (t : Int → Ob) (n : Int) (X : Ob) (r : Option Value) : Prop :=
  ∃ (z : Int) (t' : Int → Ob) (n' : Int), r = some (.int (iZ z)) ∧ SB g w' b cap t' n' ∧ Ext t n t' n' ∧ n' ≤ n + 1 ∧ Vl t' n' z X ∧ ∀ k, (k < 2 ∨ 7 < k) → w' k = w k
theorem vNew.of {w' : pw_W} {r : Option Value} (hS : SB g w b cap t n) (hX : obOk X) (h : sNew g w w' cap t n X r) : vNew g w w' b cap t n X r := by
  obtain ⟨z, t', n', h1, h2, h3, h4, h5, h5', h6, h7, h8, h9, h10⟩ := h
  refine ⟨z, t', n', h1, ⟨h9.trans hS.1, h2, fun i i0 i1 => ?_⟩, ⟨h4, h3⟩, h5, ⟨h6, h7, h8⟩, h10⟩
  by_cases q : i < n
  · rw [h3 i i0 q]; exact hS.2.2 i i0 q
  · rw [show i = z by omega, h8]; exact hX
theorem vr_isPair (hS : SB g w b cap t n) (hX : Vl t n o X) : pw_M g l yX6_isPair cX6_isPair 2 (some .boolean) { frames := 0, cells := 0, slots := 0, locals := 0 } [.ref b, .int (iZ o)] w (fun r w' => w = w' ∧ r = some (.int (iZ (b2i (obP X))))) := by
  obtain ⟨h0, h1, rfl⟩ := hX
  exact tr_isPair hS.1 hS.2.1 ⟨h0, h1⟩
theorem vr_isNatural (hS : SB g w b cap t n) (hX : Vl t n o X) : pw_M g l yX6_isNatural cX6_isNatural 2 (some .boolean) { frames := 0, cells := 0, slots := 0, locals := 0 } [.ref b, .int (iZ o)] w (fun r w' => w = w' ∧ r = some (.int (iZ (b2i (obN X))))) := by
  obtain ⟨h0, h1, rfl⟩ := hX
  exact tr_isNatural hS.1 hS.2.1 ⟨h0, h1⟩
theorem vr_isSymbol (hS : SB g w b cap t n) (hX : Vl t n o X) : pw_M g l yX6_isSymbol cX6_isSymbol 2 (some .boolean) { frames := 0, cells := 0, slots := 0, locals := 0 } [.ref b, .int (iZ o)] w (fun r w' => w = w' ∧ r = some (.int (iZ (b2i (obS X))))) := by
  obtain ⟨h0, h1, rfl⟩ := hX
  exact tr_isSymbol hS.1 hS.2.1 ⟨h0, h1⟩
theorem vr_isVariable (hS : SB g w b cap t n) (hX : Vl t n o X) : pw_M g l yX6_isVariable cX6_isVariable 2 (some .boolean) { frames := 1, cells := 0, slots := 0, locals := 21 } [.ref b, .int (iZ o)] w (fun r w' => w = w' ∧ r = some (.int (iZ (b2i (obV X))))) := by
  obtain ⟨h0, h1, rfl⟩ := hX
  exact tr_isVariable hS.1 hS.2.1 ⟨h0, h1⟩
theorem vr_isQuoted (hS : SB g w b cap t n) (hX : Vl t n o X) : pw_M g l yX6_isQuoted cX6_isQuoted 2 (some .boolean) { frames := 2, cells := 0, slots := 0, locals := 42 } [.ref b, .int (iZ o)] w (fun r w' => w = w' ∧ r = some (.int (iZ (b2i (obQ X))))) := by
  obtain ⟨h0, h1, rfl⟩ := hX
  exact tr_isQuoted hS.1 hS.2.1 ⟨h0, h1⟩
theorem vr_heightOf (hS : SB g w b cap t n) (hX : Vl t n o X) : pw_M g l yX6_heightOf cX6_heightOf 2 (some .int) { frames := 0, cells := 0, slots := 0, locals := 0 } [.ref b, .int (iZ o)] w (fun r w' => w = w' ∧ r = some (.int (iZ (obHt X)))) := by
  obtain ⟨h0, h1, rfl⟩ := hX
  exact tr_heightOf hS.1 hS.2.1 ⟨h0, h1⟩
theorem vr_lengthOf (hS : SB g w b cap t n) (hX : Vl t n o X) : pw_M g l yX6_lengthOf cX6_lengthOf 4 (some .int) { frames := 2, cells := 0, slots := 0, locals := 42 } [.ref b, .int (iZ o)] w (fun r w' => w = w' ∧ r = some (.int (iZ (obLen X)))) := by
  obtain ⟨h0, h1, rfl⟩ := hX
  exact tr_lengthOf hS.1 hS.2.1 ⟨h0, h1⟩
theorem vr_amount (hS : SB g w b cap t n) (hX : Vl t n o X) : pw_M g l yX6_amount cX6_amount 2 (some .long) { frames := 1, cells := 0, slots := 0, locals := 21 } [.ref b, .int (iZ o)] w (fun r w' => w = w' ∧ r = some (.long (lZ (obAm X)))) := by
  obtain ⟨h0, h1, rfl⟩ := hX
  exact tr_amount hS.1 hS.2.1 ⟨h0, h1⟩
theorem vr_spelling (hS : SB g w b cap t n) (hX : Vl t n o X) : pw_M g l yX6_spelling cX6_spelling 2 (some .long) { frames := 1, cells := 0, slots := 0, locals := 21 } [.ref b, .int (iZ o)] w (fun r w' => w = w' ∧ r = some (.long (lZ (obSp X)))) := by
  obtain ⟨h0, h1, rfl⟩ := hX
  exact tr_spelling hS.1 hS.2.1 ⟨h0, h1⟩
theorem vr_head (hS : SB g w b cap t n) (hX : Vl t n o X) : pw_M g l yX6_head cX6_head 2 (some .int) { frames := 1, cells := 0, slots := 0, locals := 21 } [.ref b, .int (iZ o)] w (fun r w' => w = w' ∧ ∃ z : Int, r = some (.int (iZ z)) ∧ Vl t n z (obCar X)) := by
  obtain ⟨h0, h1, rfl⟩ := hX
  exact tr_head hS.1 hS.2.1 ⟨h0, h1⟩
theorem vr_tail (hS : SB g w b cap t n) (hX : Vl t n o X) : pw_M g l yX6_tail cX6_tail 2 (some .int) { frames := 1, cells := 0, slots := 0, locals := 21 } [.ref b, .int (iZ o)] w (fun r w' => w = w' ∧ ∃ z : Int, r = some (.int (iZ z)) ∧ Vl t n z (obCdr X)) := by
  obtain ⟨h0, h1, rfl⟩ := hX
  exact tr_tail hS.1 hS.2.1 ⟨h0, h1⟩
theorem vr_second (hS : SB g w b cap t n) (hX : Vl t n o X) : pw_M g l yX6_second cX6_second 2 (some .int) { frames := 2, cells := 0, slots := 0, locals := 42 } [.ref b, .int (iZ o)] w (fun r w' => w = w' ∧ ∃ z : Int, r = some (.int (iZ z)) ∧ Vl t n z (obCar (obCdr X))) := by
  obtain ⟨h0, h1, rfl⟩ := hX
  exact tr_second hS.1 hS.2.1 ⟨h0, h1⟩
theorem vr_third (hS : SB g w b cap t n) (hX : Vl t n o X) : pw_M g l yX6_third cX6_third 2 (some .int) { frames := 2, cells := 0, slots := 0, locals := 42 } [.ref b, .int (iZ o)] w (fun r w' => w = w' ∧ ∃ z : Int, r = some (.int (iZ z)) ∧ Vl t n z (obCar (obCdr (obCdr X)))) := by
  obtain ⟨h0, h1, rfl⟩ := hX
  exact tr_third hS.1 hS.2.1 ⟨h0, h1⟩
theorem vr_fourth (hS : SB g w b cap t n) (hX : Vl t n o X) : pw_M g l yX6_fourth cX6_fourth 2 (some .int) { frames := 2, cells := 0, slots := 0, locals := 42 } [.ref b, .int (iZ o)] w (fun r w' => w = w' ∧ ∃ z : Int, r = some (.int (iZ z)) ∧ Vl t n z (obCar (obCdr (obCdr (obCdr X))))) := by
  obtain ⟨h0, h1, rfl⟩ := hX
  exact tr_fourth hS.1 hS.2.1 ⟨h0, h1⟩
theorem vr_isElement (hS : SB g w b cap t n) (hX : Vl t n o X) (hY : Vl t n q Y) : pw_M g l yX6_isElement cX6_isElement 5 (some .boolean) { frames := 2, cells := 0, slots := 0, locals := 42 } [.ref b, .int (iZ o), .int (iZ q)] w (fun r w' => w = w' ∧ r = some (.int (iZ (b2i (obEl X Y))))) := by
  obtain ⟨h0, h1, rfl⟩ := hX
  obtain ⟨k0, k1, rfl⟩ := hY
  exact tr_isElement hS.1 hS.2.1 ⟨h0, h1⟩ ⟨k0, k1⟩
theorem vr_pair (hS : SB g w b cap t n) (hc : n < cap) (hX : Vl t n o X) (hY : Vl t n q Y) : pw_M g l yX6_pair cX6_pair 3 (some .int) { frames := 2, cells := 0, slots := 0, locals := 51 } [.ref b, .int (iZ o), .int (iZ q)] w (fun r w' => vNew g w w' b cap t n (.add X Y) r) := by
  refine (tr_pair hS.1 hS.2.1 hc ⟨hX.1, hX.2.1⟩ ⟨hY.1, hY.2.1⟩).mono (fun r w' hp => ?_)
  rw [hX.2.2, hY.2.2] at hp
  exact vNew.of hS ⟨hS.ok hX, hS.ok hY⟩ hp
theorem vr_natural (hS : SB g w b cap t n) (hc : n < cap) {m : Nat} (hm : m < 4611686018427387904) : pw_M g l yX6_natural cX6_natural 3 (some .int) { frames := 2, cells := 0, slots := 0, locals := 51 } [.ref b, .long (lZ (m : Int))] w (fun r w' => vNew g w w' b cap t n (.arg m) r) := (tr_natural hS.1 hS.2.1 hc hm).mono (fun _ _ hp => vNew.of hS hm hp)
theorem vr_symbol (hS : SB g w b cap t n) (hc : n < cap) {m : Nat} (hm : m < 4611686018427387904) : pw_M g l yX6_symbol cX6_symbol 3 (some .int) { frames := 2, cells := 0, slots := 0, locals := 51 } [.ref b, .long (lZ (m : Int))] w (fun r w' => vNew g w w' b cap t n (.index m) r) := (tr_symbol hS.1 hS.2.1 hc hm).mono (fun _ _ hp => vNew.of hS hm hp)
theorem Vl.tr (hS : SB g w b cap t n) (q : Bool) : Vl t n (b2i q) (trO q) := by
  cases q
  · exact Vl.nil hS
  · exact Vl.k hS 1 (by decide)
theorem Vl.ht (hS : SB g w b cap t n) (hX : Vl t n o X) : 0 ≤ obHt X ∧ obHt X < 16384 := by
  have h0 := hS.n
  obtain ⟨-, ⟨σ, -, -, h3⟩, -⟩ := hS
  obtain ⟨h1, h2, rfl⟩ := hX
  exact ⟨obHt_ge _, by have := sT_ht h3 _ o rfl h1 h2; omega⟩
theorem Vl.isnil (hS : SB g w b cap t n) (hX : Vl t n o X) : o = 0 ↔ X = oNil := Vl.inj hS hX (Vl.nil hS)
theorem Vl.ist (hS : SB g w b cap t n) (hX : Vl t n o X) : o = 1 ↔ X = oT := Vl.inj hS hX (Vl.k hS 1 (by decide))
theorem Vl.isquote (hS : SB g w b cap t n) (hX : Vl t n o X) : o = 2 ↔ X = oQuote := Vl.inj hS hX (Vl.k hS 2 (by decide))
theorem Vl.rng (hS : SB g w b cap t n) (hX : Vl t n o X) : 0 ≤ o ∧ o < 16384 := by
  have := hS.n
  exact ⟨hX.1, by have := hX.2.1; omega⟩
theorem SB.keep {w' : pw_W} (hS : SB g w b cap t n) (hf : ∀ k, (k < 2 ∨ 7 < k) ∨ True → w' k = w k) : SB g w' b cap t n := hS.same (fun k _ _ => hf k (Or.inr trivial))
end

/-! THE TWO SIDE BY SIDE -/
section
variable {g : pw_P} {w w' : pw_W} {A : Nat → Nat} {wt f : Int → Int} {len rf : Nat} {rp : Int} {fu sp wf : Nat} {T : List Dn} {L : List Int} {nk cap : Nat} {kp : Int}
theorem LmI.same (h : LmI g w A wt f len rf rp fu sp wf T L nk cap kp) (hf : ∀ k, k < 1000 → w' k = w k) : LmI g w' A wt f len rf rp fu sp wf T L nk cap kp := by
  obtain ⟨t, n, rs, D, ds, q, c0, c1, c2, c3, c4, c5, c6, c7, c8, c9, c10, c11, c12, c13, c14, c15, c16, c17⟩ := h
  exact ⟨t, n, rs, D, ds, q, (hf 0 (by omega)).trans c0, (hf 1 (by omega)).trans c1, c2, c3.same (fun k a b => hf k (by omega)), c4.same (fun k a => hf k (by omega)), c5, c6, c7.same (fun k a => hf k (by omega)), c8.same (fun k a => hf k (by omega)), c9, c10.same (fun k a => hf k (by omega)), c11.same (fun k a => hf k (by omega)), (hf 20 (by omega)).trans c12, c13, c14, c15, c16, fun k hk => by rw [hf k (by omega)]; exact c17 k hk⟩
theorem LmI.facts (h : LmI g w A wt f len rf rp fu sp wf T L nk cap kp) : w 0 = (A 0, some (lmE A)) ∧ TOk T ∧ TSz T ∧ (1 ≤ fu ∧ fu ≤ 1000) ∧ len ≤ 3000 ∧ (∀ j, inI (wt j)) := by
  obtain ⟨t, n, rs, D, ds, q, c0, c1, c2, c3, c4, c5, c6, c7, c8, c9, c10, c11, c12, c13, c14, c15, c16, c17⟩ := h
  exact ⟨c0, c14, c15, c16, c6, c2⟩
end
section
variable {g : pw_P} {w w' : pw_W} {b : Nat} {B : Nat → Nat} {x : Nat → Int} {t : Int → Ob} {n : Int} {sN : Nat} {fZ : Int → Int} {U : List Dn} {L : List Int} {fu : Nat} {st wk tk : Int}
theorem CmW.same (h : CmW g w b B x t n sN fZ U L fu st wk tk) (hf : ∀ k, (1000 ≤ k ∧ k ≠ 1012 ∧ k ≠ 1013 ∧ k ≠ 1017) → w' k = w k) : CmW g w' b B x t n sN fZ U L fu st wk tk := by
  obtain ⟨h0, hR, hK, hD, hL, hO, rest⟩ := h
  exact ⟨(hf 1000 (by omega)).trans h0, hR.same (fun k hk => hf k (by omega)), hK, hD.same (fun k hk => hf k (by omega)) Ext.rf, hL.same (fun k hk => hf k (by omega)), hO.same (hf 1015 (by omega)), rest⟩
end
section
variable {g : pw_P} {w w' : pw_W} {b : Nat} {B : Nat → Nat} {fw f wt : Int → Int} {len rf : Nat} {rp : Int} {fu sp wf : Nat} {T : List Dn} {L : List Int} {n : Int} {sN : Nat}
theorem MmI.same (h : MmI g w b B fw f len rf rp fu sp wf T L n sN) (hf : ∀ k, 899 < k → w' k = w k) : MmI g w' b B fw f len rf rp fu sp wf T L n sN := by
  obtain ⟨x, t, fZ, fW, tk, hC, h3, a11, u11, a12, hfc, hlen, a16, u16, hA⟩ := h
  exact ⟨x, t, fZ, fW, tk, hC.same (fun k hk => hf k (by omega)), h3, (hf 1012 (by omega)).trans a11, u11, (hf 1013 (by omega)).trans a12, hfc, hlen, (hf 1017 (by omega)).trans a16, u16, hA.nl (fun k hk => hf k (by omega))⟩
theorem MmI.cell (h : MmI g w b B fw f len rf rp fu sp wf T L n sN) : ∃ x, w 1000 = (b, some (mdE B x)) := by
  obtain ⟨x, t, fZ, fW, tk, hC, -⟩ := h
  exact ⟨x, hC.1⟩
theorem mm_feed (g : pw_P) (l : Launch) {w : pw_W} {b : Nat} {B : Nat → Nat} {fw f : Int → Int} {len rf : Nat} {rp : Int} {fu sp wf : Nat} {T : List Dn} {L : List Int} {n : Int} {sN : Nat} (hM : MmI g w b B fw f len rf rp fu sp wf T L n sN) {a b2 c2 d2 e2 : Int} (h0_ : inI a) (h1_ : inI b2) (h2_ : inI c2) (h3_ : inI d2) (h4_ : inI e2) : pw_M g l yX10_feed cX10_feed 7 none { frames := 0, cells := 0, slots := 0, locals := 0 } [.ref b, .int (iZ a), .int (iZ b2), .int (iZ c2), .int (iZ d2), .int (iZ e2)] w (fun r w' => r = none ∧ (∃ fw', (∀ i : Int, 0 ≤ i → i < 20 → fw' i = wbA (ar5 a b2 c2 d2 e2) i) ∧ MmI g w' b B fw' f len rf rp fu sp wf T L n sN) ∧ ∀ k, k < 1000 → w' k = w k) := by
  obtain ⟨x, t, fZ, fW, tk, hC, h3, a11, u11, a12, hfc, hlen, a16, u16, hA⟩ := hM
  refine pw_M.mono (m_X10_feed g l hC.1 a11 u11 h0_ h1_ h2_ h3_ h4_) ?_
  rintro r w' ⟨h1, fw', q1, q2, q3, q4⟩
  exact ⟨h1, ⟨fw', q3, x, t, fZ, fW, tk, hC.same (fun k hk => q4 k (by omega)), h3, q1, q2, (q4 1013 (by omega)).trans a12, hfc, hlen, (q4 1017 (by omega)).trans a16, u16, hA.nl (fun k hk => q4 k (by omega))⟩, fun k hk => q4 k (by omega)⟩
theorem apF_cg {f a a' : Int → Int} {len : Nat} : ∀ k : Nat, (∀ i : Int, 0 ≤ i → i < ((k : Nat) : Int) → a' i = a i) → apF f len a' k = apF f len a k
  | 0, _ => rfl
  | k + 1, h => by
    show upz (apF f len a' k) _ (a' k) = upz (apF f len a k) _ (a k)
    rw [apF_cg k (fun i h0 h1 => h i h0 (by omega)), h k (by omega) (by omega)]
theorem mm_end (g : pw_P) (l : Launch) {w : pw_W} {b : Nat} {B : Nat → Nat} {fw f wt : Int → Int} {len rf : Nat} {rp : Int} {fu sp wf : Nat} {T : List Dn} {L : List Int} {n : Int} {sN : Nat} (hM : MmI g w b B fw f len rf rp fu sp wf T L n sN) (hw : ∀ i : Int, 0 ≤ i → i < 20 → fw i = wbA wt i) {y : Int} (hy : inI y) : pw_M g l yX10_end cX10_end 3 (some .int) { frames := 0, cells := 0, slots := 0, locals := 0 } [.ref b, .int (iZ y)] w (fun r w' => (if (0 ≤ y ∧ y ≤ 20 ∧ ((len : Nat) : Int) + y ≤ 3000) then r = some (.int (iZ (((len : Nat) : Int) + y))) ∧ ∃ fw', (∀ i : Int, 0 ≤ i → i < 20 → fw' i = 0) ∧ MmI g w' b B fw' (apF f len (wbA wt) y.toNat) (len + y.toNat) rf rp fu sp wf T L n sN else r = some (.int (iZ (-1))) ∧ MmI g w' b B fw f len rf rp fu sp wf T L n sN) ∧ ∀ k, k < 1000 → w' k = w k) := by
  obtain ⟨x, t, fZ, fW, tk, hC, h3, a11, u11, a12, hfc, hlen, a16, u16, hA⟩ := id hM
  refine pw_M.mono (m_X10_end g l hC.1 hy a12 (fun j => by have := hfc j; omega) a11 u11 h3.1 hlen) ?_
  rintro r w' ⟨h1, hf⟩
  refine ⟨?_, fun k hk => hf k (by omega)⟩
  by_cases c : 0 ≤ y ∧ y ≤ 20 ∧ ((len : Nat) : Int) + y ≤ 3000
  · rw [if_pos c] at h1 ⊢
    obtain ⟨e1, e2, e3, fw', e4, e5, e6⟩ := h1
    have e7 : apF f len fw y.toNat = apF f len (wbA wt) y.toNat := apF_cg _ (fun i i0 i1 => hw i i0 (by omega))
    rw [e7] at e3
    obtain ⟨h0, hR, hK, hD, hL, hO, rest⟩ := hC
    exact ⟨e1, fw', e6, _, t, fZ, fW, tk, ⟨e2, hR.same (fun k hk => hf k (by omega)), hK, hD.same (fun k hk => hf k (by omega)) Ext.rf, hL.same (fun k hk => hf k (by omega)), hO.same (hf 1015 (by omega)), rest⟩, ⟨by show ((len : Nat) : Int) + y = ((len + y.toNat : Nat) : Int); omega, h3.2.1, h3.2.2⟩, e4, e5, e3, fun j => apF_in hfc (fun q => byB_in _ _) _ j, by omega, (hf 1017 (by omega)).trans a16, u16, hA.nl (fun k hk => hf k (by omega))⟩
  · rw [if_neg c] at h1 ⊢
    rw [h1.2]
    exact ⟨h1.1, hM⟩
theorem mm_fuel (g : pw_P) (l : Launch) {w : pw_W} {b : Nat} {B : Nat → Nat} {fw f : Int → Int} {len rf : Nat} {rp : Int} {fu sp wf : Nat} {T : List Dn} {L : List Int} {n : Int} {sN : Nat} (hM : MmI g w b B fw f len rf rp fu sp wf T L n sN) {y : Int} (hy : inI y) : pw_M g l yX10_fuel cX10_fuel 3 (some .int) { frames := 0, cells := 0, slots := 0, locals := 0 } [.ref b, .int (iZ y)] w (fun r w' => r = some (.int (iZ (if 1 ≤ y ∧ y ≤ 1000 then (fu : Int) else -1))) ∧ MmI g w' b B fw f len rf rp (if 1 ≤ y ∧ y ≤ 1000 then y.toNat else fu) sp wf T L n sN ∧ ∀ k, k < 1000 → w' k = w k) := by
  obtain ⟨x, t, fZ, fW, tk, ⟨h0, hR, hK, hD, hL, hO, h7, h10, h32, h37, h39, rest⟩, h3, a11, u11, a12, hfc, hlen, a16, u16, hA⟩ := id hM
  refine pw_M.mono (m_X10_fuel g l h0 hy) ?_
  rintro r w' ⟨h1, h2, hf⟩
  rw [h39] at h1 h2
  refine ⟨h1, ⟨_, t, fZ, fW, tk, ⟨h2, hR.same (fun k hk => hf k (by omega)), hK, hD.same (fun k hk => hf k (by omega)) Ext.rf, hL.same (fun k hk => hf k (by omega)), hO.same (hf 1015 (by omega)), h7, h10, h32, h37, ?_, rest⟩, h3, (hf 1012 (by omega)).trans a11, u11, (hf 1013 (by omega)).trans a12, hfc, hlen, (hf 1017 (by omega)).trans a16, u16, hA.nl (fun k hk => hf k (by omega))⟩, fun k hk => hf k (by omega)⟩
  show (if 1 ≤ y ∧ y ≤ 1000 then y else (fu : Int)) = (((if 1 ≤ y ∧ y ≤ 1000 then y.toNat else fu) : Nat) : Int)
  split <;> omega
theorem mm_fault (g : pw_P) (l : Launch) {w : pw_W} {b : Nat} {B : Nat → Nat} {fw f : Int → Int} {len rf : Nat} {rp : Int} {fu sp wf : Nat} {T : List Dn} {L : List Int} {n : Int} {sN : Nat} (hM : MmI g w b B fw f len rf rp fu sp wf T L n sN) {y : Int} (hy : inI y) : pw_M g l yX10_fault cX10_fault 2 (some .int) { frames := 0, cells := 0, slots := 0, locals := 0 } [.ref b, .int (iZ y)] w (fun r w' => w = w' ∧ r = some (.int (iZ (flF rf rp wf y)))) := by
  obtain ⟨x, t, fZ, fW, tk, ⟨h0, hR, hK, hD, hL, hO, h7, h10, h32, h37, h39, h40, h41, rest⟩, h3, -⟩ := id hM
  have e := m_X10_fault g l h0 hy
  rw [h3.2.1, h3.2.2, h41] at e
  exact e
theorem mm_steps (g : pw_P) (l : Launch) {w : pw_W} {b : Nat} {B : Nat → Nat} {fw f : Int → Int} {len rf : Nat} {rp : Int} {fu sp wf : Nat} {T : List Dn} {L : List Int} {n : Int} {sN : Nat} (hM : MmI g w b B fw f len rf rp fu sp wf T L n sN) : pw_M g l yX10_steps cX10_steps 1 (some .int) { frames := 0, cells := 0, slots := 0, locals := 0 } [.ref b] w (fun r w' => w = w' ∧ r = some (.int (iZ ((sp : Nat) : Int)))) := by
  obtain ⟨x, t, fZ, fW, tk, ⟨h0, hR, hK, hD, hL, hO, h7, h10, h32, h37, h39, h40, h41, rest⟩, h3, -⟩ := id hM
  have e := m_X10_steps g l h0
  rw [h40] at e
  exact e
theorem mm_functions (g : pw_P) (l : Launch) {w : pw_W} {b : Nat} {B : Nat → Nat} {fw f : Int → Int} {len rf : Nat} {rp : Int} {fu sp wf : Nat} {T : List Dn} {L : List Int} {n : Int} {sN : Nat} (hM : MmI g w b B fw f len rf rp fu sp wf T L n sN) : pw_M g l yX10_functions cX10_functions 1 (some .int) { frames := 0, cells := 0, slots := 0, locals := 0 } [.ref b] w (fun r w' => w = w' ∧ r = some (.int (iZ ((T.length : Nat) : Int)))) := by
  obtain ⟨x, t, fZ, fW, tk, ⟨h0, hR, hK, hD, hL, hO, h7, h10, h32, h37, h39, h40, h41, rest⟩, h3, -⟩ := id hM
  have e := m_X10_functions g l h0
  rw [h32, plT_len] at e
  exact e
theorem mm_size (g : pw_P) (l : Launch) {w : pw_W} {b : Nat} {B : Nat → Nat} {fw f : Int → Int} {len rf : Nat} {rp : Int} {fu sp wf : Nat} {T : List Dn} {L : List Int} {n : Int} {sN : Nat} (hM : MmI g w b B fw f len rf rp fu sp wf T L n sN) : pw_M g l yX10_size cX10_size 1 (some .int) { frames := 0, cells := 0, slots := 0, locals := 0 } [.ref b] w (fun r w' => w = w' ∧ r = some (.int (iZ (szF L)))) := by
  obtain ⟨x, t, fZ, fW, tk, ⟨h0, hR, hK, hD, hL, hO, rest⟩, h3, -⟩ := id hM
  have e := m_X10_size g l h0
  rw [hO.v.1] at e
  exact e
theorem mm_letter (g : pw_P) (l : Launch) {w : pw_W} {b : Nat} {B : Nat → Nat} {fw f : Int → Int} {len rf : Nat} {rp : Int} {fu sp wf : Nat} {T : List Dn} {L : List Int} {n : Int} {sN : Nat} (hM : MmI g w b B fw f len rf rp fu sp wf T L n sN) {k : Int} (hk : inI k) : pw_M g l yX10_letter cX10_letter 2 (some .int) { frames := 0, cells := 0, slots := 0, locals := 0 } [.ref b, .int (iZ k)] w (fun r w' => w = w' ∧ r = some (.int (iZ (ltF L k)))) := by
  obtain ⟨x, t, fZ, fW, tk, ⟨h0, hR, hK, hD, hL, hO, rest⟩, h3, -⟩ := id hM
  exact m_X10_letter g l h0 hk rfl hO
end
/-! letters that wait and letters of the text -/
theorem nzC_zero {f : Int → Int} : ∀ k : Nat, (∀ i : Int, 0 ≤ i → i < ((k : Nat) : Int) → f i = 0) → nzC f k = 0
  | 0, _ => rfl
  | k + 1, h => by
    simp only [nzC]
    rw [nzC_zero k (fun i h0 h1 => h i h0 (by omega)), if_pos (h k (by omega) (by omega))]
theorem nzC_ap {f a : Int → Int} {len : Nat} : ∀ k : Nat, nzC (apF f len a k) (len + k) ≤ nzC f len + nzC a k
  | 0 => Nat.le_refl _
  | k + 1 => by
    have ih := nzC_ap (f := f) (a := a) (len := len) k
    show nzC (upz (apF f len a k) ((len : Int) + k) (a k)) (len + k) + (if upz (apF f len a k) ((len : Int) + k) (a k) ((len + k : Nat) : Int) = 0 then 0 else 1) ≤ nzC f len + (nzC a k + (if a k = 0 then 0 else 1))
    rw [nzC_same (f := apF f len a k) (f' := upz (apF f len a k) ((len : Int) + k) (a k)) (fun j j0 j1 => upz_ne _ _ (by omega)), show ((len + k : Nat) : Int) = (len : Int) + k by omega, upz_self]
    omega
theorem wbA_cg {wt wt' : Int → Int} (h : ∀ j : Int, 0 ≤ j → j < 5 → wt' j = wt j) (i : Int) (h0 : 0 ≤ i) (h1 : i < 20) : wbA wt' i = wbA wt i := by
  unfold wbA
  rw [h (i / 4) (by omega) (by omega)]
theorem wbA_zero {wt : Int → Int} (h : ∀ j : Int, 0 ≤ j → j < 5 → wt j = 0) (i : Int) (h0 : 0 ≤ i) (h1 : i < 20) : wbA wt i = 0 := by
  unfold wbA byB
  rw [h (i / 4) (by omega) (by omega)]
  simp
theorem ar5_up {wt : Int → Int} {a b c d e : Int} (j : Int) (h0 : 0 ≤ j) (h1 : j < 5) : upz (upz (upz (upz (upz wt 0 a) 1 b) 2 c) 3 d) 4 e j = ar5 a b c d e j := by
  have hj : j = 0 ∨ j = 1 ∨ j = 2 ∨ j = 3 ∨ j = 4 := by omega
  rcases hj with rfl | rfl | rfl | rfl | rfl <;> rfl
/-- what holds at the head of the law's loop, k calls done -/
def LwI (g : pw_P) (w : pw_W) (A : Nat → Nat) (bm : Nat) (B : Nat → Nat) (k cap : Nat) : Prop :=
  ∃ (wt f fw : Int → Int) (len rf : Nat) (rp : Int) (fu sp wf : Nat) (T : List Dn) (L : List Int) (nk : Nat) (kp n : Int) (sN U : Nat), LmI g w A wt f len rf rp fu sp wf T L nk cap kp ∧ MmI g w bm B fw f len rf rp fu sp wf T L n sN ∧ (∀ i : Int, 0 ≤ i → i < 20 → fw i = wbA wt i) ∧ TNs T ∧ (cap = 2048 ∨ cap = 4096 ∨ cap = 8192 ∨ cap = 16384) ∧ kp ≤ 24 + 2 * ((U : Nat) : Int) ∧ n ≤ 24 + 5 * ((U : Nat) : Int) + 3 * ((k : Nat) : Int) ∧ 2 * sN ≤ 48 + U + k ∧ 2 * U + 2 * nzC f len + nzC fw 20 ≤ 20 * k
theorem LwI.skip {g : pw_P} {w : pw_W} {A : Nat → Nat} {bm : Nat} {B : Nat → Nat} {k cap : Nat} (h : LwI g w A bm B k cap) : LwI g w A bm B (k + 1) cap := by
  obtain ⟨wt, f, fw, len, rf, rp, fu, sp, wf, T, L, nk, kp, n, sN, U, h1, h2, h3, h4, h5, h6, h7, h8, h9⟩ := h
  exact ⟨wt, f, fw, len, rf, rp, fu, sp, wf, T, L, nk, kp, n, sN, U, h1, h2, h3, h4, h5, h6, by omega, by omega, by omega⟩
theorem TNs.run {T : List Dn} {fu nk : Nat} {R : Nat × Int × Ob} (h : TNs T) : TNs (rnF T fu nk R).2 := by
  unfold rnF
  split
  · exact h.cmd
  · exact h

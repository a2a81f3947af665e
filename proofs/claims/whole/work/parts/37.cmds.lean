theorem fIx_ge : ∀ (ds : List Df) (z : Int) (i j : Nat), j < i → fIx ds z i ≠ some j
  | [], _, _, _, _ => by simp [fIx]
  | d :: ds, z, i, j, h => by
    simp only [fIx]
    split
    · intro q; have := Option.some.inj q; omega
    · exact fIx_ge ds z (i + 1) j (by omega)
theorem SB.cell {g : pw_P} {w : pw_W} {b cap : Nat} {t : Int → Ob} {n : Int} (h : SB g w b cap t n) : ∃ a3 a4 a5 a6 a7 : Nat, w 2 = (b, some (OB 6 [.ref a3, .ref a4, .ref a5, .ref a6, .ref a7, .int (iZ n)])) := by
  obtain ⟨rfl, ⟨σ, h2, -⟩, -⟩ := h
  exact ⟨_, _, _, _, _, h2.1⟩
theorem DfsI.set {w w' : pw_W} {D : Nat → Nat} {d : Df} (hd : dfI d) : ∀ {i : Nat} {ds : List Df} (j : Nat), DfsI w D i ds → w' (100 + (i + j)) = (D (i + j), some (dfO d)) → (∀ k, k ≠ 100 + (i + j) → w' k = w k) → DfsI w' D i (ds.set j d)
  | _, [], _, _, _, _ => trivial
  | i, q :: ds, 0, h, h1, h2 => ⟨h1, hd, h.2.2.same (fun k a b => h2 k (by omega))⟩
  | i, q :: ds, j + 1, h, h1, h2 => ⟨(h2 _ (by omega)).trans h.1, h.2.1, DfsI.set hd j h.2.2 (by rw [show i + 1 + j = i + (j + 1) by omega]; exact h1) (fun k hk => h2 k (by omega))⟩
theorem FnI.set {g : pw_P} {w w' : pw_W} {A D : Nat → Nat} {ds : List Df} {d : Df} {j : Nat} (h : FnI g w A D ds) (hd : dfI d) (h1 : w' (100 + j) = (D j, some (dfO d))) (h2 : ∀ k, k ≠ 100 + j → w' k = w k) : FnI g w' A D (ds.set j d) := by
  obtain ⟨F, k1, k2, k3, k4, k5⟩ := h
  refine ⟨F, by rw [List.length_set]; exact (h2 16 (by omega)).trans k1, (h2 17 (by omega)).trans k2, fun i hi => by rw [List.length_set]; exact k3 i hi, by rw [List.length_set]; exact k4, ?_⟩
  exact DfsI.set hd j k5 (by rw [Nat.zero_add]; exact h1) (fun k hk => h2 k (by rw [Nat.zero_add] at hk; exact hk))
theorem DsT.app {t : Int → Ob} {n : Int} {d : Df} {D : Dn} (hd : Vl t n d.1 D.1 ∧ d.2.1 = obLen D.2.1 ∧ Vl t n d.2.2.1 D.2.1 ∧ Vl t n d.2.2.2 D.2.2) : ∀ {ds : List Df} {T : List Dn}, DsT t n ds T → DsT t n (ds ++ [d]) (T ++ [D])
  | [], [], _ => ⟨hd.1, hd.2.1, hd.2.2.1, hd.2.2.2, trivial⟩
  | _ :: _, _ :: _, h => ⟨h.1, h.2.1, h.2.2.1, h.2.2.2.1, DsT.app hd h.2.2.2.2⟩
  | [], _ :: _, h => h.elim
  | _ :: _, [], h => h.elim
theorem DsT.con {t : Int → Ob} {n : Int} {d : Df} : ∀ {ds : List Df} {T : List Dn}, DsT t n (ds ++ [d]) T → ∃ T0 D, T = T0 ++ [D] ∧ DsT t n ds T0 ∧ Vl t n d.1 D.1
  | [], D :: [], h => ⟨[], D, rfl, trivial, h.1⟩
  | [], _ :: _ :: _, h => h.2.2.2.2.elim
  | [], [], h => h.elim
  | _ :: _, D :: T, h => by
    obtain ⟨T0, D1, h1, h2, h3⟩ := DsT.con h.2.2.2.2
    exact ⟨D :: T0, D1, by rw [h1]; rfl, ⟨h.1, h.2.1, h.2.2.1, h.2.2.2.1, h2⟩, h3⟩
  | _ :: _, [], h => h.elim
theorem DsT.set {g : pw_P} {w : pw_W} {b cap : Nat} {t : Int → Ob} {n z p x : Int} {N P X : Ob} (hS : SB g w b cap t n) (hz : Vl t n z N) (hp : Vl t n p P) (hx : Vl t n x X) : ∀ {ds : List Df} {T : List Dn} (i0 i : Nat) {d : Df}, DsT t n ds T → fIx ds z i0 = some (i0 + i) → ds[i]? = some d → d.2.1 = obLen P → DsT t n (ds.set i (d.1, d.2.1, p, x)) (dSet T N P X)
  | [], _, _, _, _, _, h, _, _ => by cases h
  | q :: ds, Q :: T, i0, i, d, hd, h1, h2, h3 => by
    simp only [fIx] at h1
    simp only [dSet]
    by_cases e : q.1 = z
    · rw [if_pos e] at h1
      have hi : i = 0 := by have := Option.some.inj h1; omega
      subst hi
      cases h2
      rw [if_pos ((Vl.inj hS hd.1 hz).mp e)]
      exact ⟨hd.1, h3, hp, hx, hd.2.2.2.2⟩
    · rw [if_neg e] at h1
      rw [if_neg (fun k => e ((Vl.inj hS hd.1 hz).mpr k))]
      cases i with
      | zero => exact absurd h1 (fIx_ge ds z (i0 + 1) i0 (by omega))
      | succ i => exact ⟨hd.1, hd.2.1, hd.2.2.1, hd.2.2.2.1, DsT.set hS hz hp hx (i0 + 1) i hd.2.2.2.2 (by rw [h1]; congr 1; omega) (by simpa using h2) h3⟩
  | _ :: _, [], _, _, _, hd, _, _, _ => hd.elim
/-- what a command has done, with the functions -/
def CmP (g : pw_P) (w w' : pw_W) (A : Nat → Nat) (cap : Nat) (t : Int → Ob) (n : Int) (fu : Nat) (kp mo : Int) (R : Cr × List Dn) (r : Option Value) : Prop :=
  ∃ (t' : Int → Ob) (n' rs' kp' : Int) (D' : Nat → Nat) (ds' : List Df), r = some (.int (iZ (R.1.1 : Int))) ∧ SB g w' (A 2) cap t' n' ∧ Ext t n t' n' ∧ n' ≤ n + mo ∧ FnI g w' A D' ds' ∧ DsT t' kp' ds' R.2 ∧ (24 ≤ kp' ∧ kp' ≤ n' ∧ (kp' = kp ∨ kp' = n)) ∧ EvI g w' A fu (R.1.2.2.1 : Int) (R.1.2.2.2.1 : Int) R.1.2.2.2.2 ∧ TmJ g w' A ∧ w' 20 = (A 20, some (cmE A rs' kp')) ∧ (match R.1.2.1 with | some Y => Vl t' n' rs' Y | none => rs' = -1) ∧ ∀ k, (k < 2 ∨ (7 < k ∧ k < 16) ∨ (22 < k ∧ k < 100) ∨ 899 < k) → w' k = w k
theorem CmQ.P {g : pw_P} {w w' : pw_W} {A D : Nat → Nat} {cap : Nat} {t : Int → Ob} {n : Int} {ds : List Df} {T : List Dn} {fu : Nat} {kp mo mo' : Int} {R : Cr} {r : Option Value} (h : CmQ g w w' A D cap t n ds fu (-1) kp mo R r) (hm : mo ≤ mo') (hD : DsT t kp ds T) (hk : 24 ≤ kp ∧ kp ≤ n) : CmP g w w' A cap t n fu kp mo' (R, T) r := by
  obtain ⟨t', n', rs', h1, h2, h3, h4, h5, h6, h7, h8, h9, h10⟩ := h
  have h31 := h3.1
  exact ⟨t', n', rs', kp, D, ds, h1, h2, h3, by omega, h5, hD.ext ⟨Int.le_refl _, fun i i0 i1 => h3.2 i i0 (by omega)⟩, ⟨hk.1, by omega, Or.inl rfl⟩, h6, h7, h8, h9, h10⟩

/-! ARRAYS OF REFERENCES: stored, set to null, made -/
section
variable {g : pw_P} {p : Program} {l : Launch} {e : Env} {R : Room} {s : State} {m : MethodId} {args : Array Value} {below : List Frame} {meth : Method} {c : Code} {cc : ByteArray} {nL : Nat} {own : String} {Q : State → Prop} {cells slots pc : Nat} {lv : List (Nat × Value)} {st : List Value} {w : pw_W} {k a n : Nat} {i : Int}
theorem pw_rfup (f : Nat → Option Nat) (j : Nat) (v : Option Nat) : updV (fun y => va_rf (f y)) j (va_rf v) = fun y => va_rf (va_up f j v y) := by
  funext q
  by_cases hq : q = j
  · subst hq
    simp [updV, va_up]
  · simp [updV, va_up, hq]
theorem pw_aast (C : pw_C g p s m args meth c cc nL own) {t kv v ci : Nat} {r : vw_C} {vs : List Value} {fr : Nat → Option Nat} (hk : w k = (a, some (AR g t n fr))) (ht : (pw_tys g.2.1)[t]? = some (g.2.1 t, .object r.1)) (hv : w kv = (v, some (OB ci vs))) (hc : vwCl[ci]? = some r) (h : 0 ≤ i ∧ i < n ∧ i < 2147483648) (hd : decode cc pc = .ok (.aastore, 1))
    (kk : ∀ w' : pw_W, w' k = (a, some (AR g t n (va_up fr i.toNat (some v)))) → (∀ j, j ≠ k → w' j = w j) → pw_G g p l e R s m args below meth c nL Q cells slots (pc + 1) lv st w') : pw_G g p l e R s m args below meth c nL Q cells slots pc lv (.ref v :: .int (iZ i) :: .ref a :: st) w := by
  intro ls H locs hl hH hS
  have hin := iz_in h.1 h.2.1 h.2.2
  have hlt : (iZ i).toNatClampNeg < n := Nat.not_le.mp fun q => hin (Or.inr q)
  have h0 : ¬ iZ i < 0 := fun q => hin (Or.inl q)
  have hK := C.2.2.2.2.2.2.2.1
  obtain ⟨r', hr', cellV, g1, g2, g3, -⟩ := (hH.1 kv v _ hv).1
  have hcls := (hK.1 ci r hc).2
  obtain ⟨kA, comp, k1, k2, k3, -⟩ := (hK.2 t _ ht).2
  have hcomp : comp = g.1.1 ci := Option.some.inj (k3.symm.trans hcls.1)
  subst hcomp
  obtain ⟨kC, hkC, -⟩ := hcls.2
  refine W.aast C.1 C.2.1 (hH.1 k a _ hk).1 (fun q h => by cases h) (fun h => by cases h) k1 k2 rfl hkC ⟨h0, by show _ < (arrV _ _ _).slots.size; rw [arrV_size]; exact hlt⟩ g1 (fun q h => by rw [g3] at h; cases h) (by rw [g2]; exact hkC) (by rw [g2]; exact va_assign hcls) rfl rfl hd fun H1 e1 z oq => ?_
  refine kk _ (va_up_self _ _ _) (fun i hi => va_up_ne _ _ hi) ls H1 _ hl (hH.put hk ?_ oq) (hS.put z oq (hH.1 k a _ hk).2)
  rw [at_AR, e1, iz_clamp ⟨by omega, h.2.2⟩]
  exact congrArg some ((arrV_store (g.2.1 t) n i.toNat (fun j => va_rf (fr j)) (.ref v)).trans (congrArg (arrV (g.2.1 t) n) (pw_rfup fr i.toNat (some v))))
theorem pw_aastN (C : pw_C g p s m args meth c cc nL own) {t : Nat} {cn : String} {fr : Nat → Option Nat} (hk : w k = (a, some (AR g t n fr))) (ht : (pw_tys g.2.1)[t]? = some (g.2.1 t, .object cn)) (h : 0 ≤ i ∧ i < n ∧ i < 2147483648) (hd : decode cc pc = .ok (.aastore, 1))
    (kk : ∀ w' : pw_W, w' k = (a, some (AR g t n (va_up fr i.toNat none))) → (∀ j, j ≠ k → w' j = w j) → pw_G g p l e R s m args below meth c nL Q cells slots (pc + 1) lv st w') : pw_G g p l e R s m args below meth c nL Q cells slots pc lv (.null :: .int (iZ i) :: .ref a :: st) w := by
  intro ls H locs hl hH hS
  have hin := iz_in h.1 h.2.1 h.2.2
  refine va_WaastN (C := cn) C.1 C.2.1 (hH.1 k a _ hk).1 ((C.2.2.2.2.2.2.2.1.2 t _ ht).1 n (fun j => va_rf (fr j))) (fun h => by cases h) (by show ¬ (_ < 0 ∨ (arrV _ _ _).slots.size ≤ _); rw [arrV_size]; exact hin) rfl rfl hd fun H1 e1 z oq => ?_
  refine kk _ (va_up_self _ _ _) (fun i hi => va_up_ne _ _ hi) ls H1 _ hl (hH.put hk ?_ oq) (hS.put z oq (hH.1 k a _ hk).2)
  rw [at_AR, e1, iz_clamp ⟨by omega, h.2.2⟩]
  exact congrArg some ((arrV_store (g.2.1 t) n i.toNat (fun j => va_rf (fr j)) .null).trans (congrArg (arrV (g.2.1 t) n) (pw_rfup fr i.toNat none)))
theorem pw_newR (k t : Nat) (C : pw_C g p s m args meth c cc nL own) {idx : Nat} {cn : String} {N : Nat} (hlink : Cond.classLink own idx cn ∈ pw_T) (hover : va_AO cn s) (ht : (pw_tys g.2.1)[t]? = some (g.2.1 t, .object cn)) {i : Int} (hi : i = (N : Int)) (hN : N < 2147483648) (hbytes : N * 4 ≤ 536870912) (hc : cells + 1 ≤ R.cells) (hsl : slots + N ≤ R.slots) (hd : decode cc pc = .ok (.anewarray idx, 3))
    (kk : ∀ (a : Nat) (w' : pw_W), w' k = (a, some (AR g t N (fun _ => none))) → (∀ i, i ≠ k → w' i = w i) → pw_G g p l e R s m args below meth c nL Q (cells + 1) (slots + N) (pc + 3) lv (.ref a :: st) w') : pw_G g p l e R s m args below meth c nL Q cells slots pc lv (.int (iZ i) :: st) w := by
  intro ls H locs hl hH hS
  subst hi
  have hin : inI (N : Int) := ⟨by omega, by omega⟩
  have hcl : (iZ (N : Int)).toNatClampNeg = N := by rw [iz_clamp hin]; omega
  refine W.anew C.1 C.2.1 C.2.2.2.1 (C.2.2.2.2.1 _ hlink) (va_AO.use hover) rfl hd rfl (fun q => ?_) (by rw [hcl]; exact hbytes) hc (by rw [hcl]; exact hsl) fun cA kA comp f1 f2 f3 f4 => ?_
  · rw [← iz_0] at q
    have := (iz_lt hin (b := 0) ⟨by decide, by decide⟩).mp q
    omega
  · rw [hcl]
    have hcA : cA = g.2.1 t := by
      have h2 := (C.2.2.2.2.2.2.2.1.2 t _ ht).2
      obtain ⟨_, _, _, _, _, h3⟩ := h2
      exact Option.some.inj (f1.symm.trans h3)
    subst hcA
    generalize hH1 : H.push ({ cls := g.2.1 t, slots := Array.replicate N .null, vm := .none } : Cell) = H1
    have z1 : H1.size = H.size + 1 := by rw [← hH1, Array.size_push]
    have e1 : H1[H.size]? = some (arrV (g.2.1 t) N (fun _ => .null)) := by rw [← hH1, Array.getElem?_push_size, ← arrV_new]
    have o1 : ∀ q : Nat, q < H.size → H1[q]? = H[q]? := fun q hq => by rw [← hH1, Array.getElem?_push, if_neg (Nat.ne_of_lt hq)]
    exact kk H.size _ (va_up_self _ _ _) (fun i hi => va_up_ne _ _ hi) ls H1 locs hl (hH.new (e := AR g t N (fun _ => none)) o1 (by rw [at_AR]; exact e1) (Nat.le_trans C.2.2.2.2.2.2.1 hS.1) k) ⟨Nat.le_trans hS.1 (by omega), fun x h1 h2 => (o1 x (Nat.lt_of_lt_of_le h1 hS.1)).trans (hS.2.1 x h1 h2), hS.2.2⟩
theorem pw_ifnullR (C : pw_C g p s m args meth c cc nL own) {off : Int} (hd : decode cc pc = .ok (.ifnull off, 3)) (kf : pw_G g p l e R s m args below meth c nL Q cells slots (pc + 3) lv st w) : pw_G g p l e R s m args below meth c nL Q cells slots pc lv (.ref a :: st) w :=
  fun ls H locs hl hH hS => lv_ifnull C.1 C.2.1 hd (kf ls H locs hl hH hS)
theorem pw_ifnullZ (C : pw_C g p s m args meth c cc nL own) {off : Int} {tgt : Nat} (hd : decode cc pc = .ok (.ifnull off, 3)) (ht : (pc : Int) + off = (tgt : Int)) (kt : pw_G g p l e R s m args below meth c nL Q cells slots tgt lv st w) : pw_G g p l e R s m args below meth c nL Q cells slots pc lv (.null :: st) w :=
  fun ls H locs hl hH hS => lv_ifnullN C.1 C.2.1 hd ht (kt ls H locs hl hH hS)
theorem pw_ifnonnullR (C : pw_C g p s m args meth c cc nL own) {off : Int} {tgt : Nat} (hd : decode cc pc = .ok (.ifnonnull off, 3)) (ht : (pc : Int) + off = (tgt : Int)) (kt : pw_G g p l e R s m args below meth c nL Q cells slots tgt lv st w) : pw_G g p l e R s m args below meth c nL Q cells slots pc lv (.ref a :: st) w :=
  fun ls H locs hl hH hS => lv_ifnonnull C.1 C.2.1 hd ht (kt ls H locs hl hH hS)
theorem pw_ifnonnullZ (C : pw_C g p s m args meth c cc nL own) {off : Int} (hd : decode cc pc = .ok (.ifnonnull off, 3)) (kf : pw_G g p l e R s m args below meth c nL Q cells slots (pc + 3) lv st w) : pw_G g p l e R s m args below meth c nL Q cells slots pc lv (.null :: st) w :=
  fun ls H locs hl hH hS => lv_ifnonnullN C.1 C.2.1 hd (kf ls H locs hl hH hS)
theorem pw_tsIn (C : pw_C g p s m args meth c cc nL own) {dflt lo hi x off : Int} {offs : Array Int} {len tgt : Nat} (hd : decode cc pc = .ok (.tableswitch dflt lo hi offs, len)) (hx : inI x) (h1 : lo ≤ x) (h2 : x ≤ hi) (ho : offs[(x - lo).toNat]? = some off) (ht : (pc : Int) + off = (tgt : Int)) (k : pw_G g p l e R s m args below meth c nL Q cells slots tgt lv st w) : pw_G g p l e R s m args below meth c nL Q cells slots pc lv (.int (iZ x) :: st) w :=
  fun ls H locs hl hH hS => lv_tableIn C.1 C.2.1 hd (by rw [iz_toInt hx]; omega) (by rw [iz_toInt hx]; omega) (by rw [iz_toInt hx]; exact ho) ht (k ls H locs hl hH hS)
theorem pw_tsOut (C : pw_C g p s m args meth c cc nL own) {dflt lo hi x : Int} {offs : Array Int} {len tgt : Nat} (hd : decode cc pc = .ok (.tableswitch dflt lo hi offs, len)) (hx : inI x) (h : x < lo ∨ hi < x) (ht : (pc : Int) + dflt = (tgt : Int)) (k : pw_G g p l e R s m args below meth c nL Q cells slots tgt lv st w) : pw_G g p l e R s m args below meth c nL Q cells slots pc lv (.int (iZ x) :: st) w :=
  fun ls H locs hl hH hS => lv_tableOut C.1 C.2.1 hd (by rw [iz_toInt hx]; exact h) ht (k ls H locs hl hH hS)
end

/-! CLASSES and their fields -/
theorem pw_ws {C : String} {T : u_T} {N : Nat} (h : (u_ws C T N).all (fun w => decide (w ∈ lw_tbl) && goodWord w) = true) : ∀ w ∈ u_ws C T N, w ∈ pw_T := by
  intro w hw
  have h1 := List.all_eq_true.mp h w hw
  simp only [Bool.and_eq_true, decide_eq_true_eq] at h1
  exact pw_in h1.1 h1.2
theorem at_AI (g : pw_P) (a n : Nat) (f : Int → Int) (H : Heap) : va_at g.1 vwCl (a, AI g n f) H = (H[a]? = some (arrV (g.2.1 0) n (fun (j : Nat) => .int (iZ (f (j : Int)))))) := rfl
theorem at_AJ (g : pw_P) (a n : Nat) (f : Int → Int) (H : Heap) : va_at g.1 vwCl (a, AJ g n f) H = (H[a]? = some (arrV (g.2.1 1) n (fun (j : Nat) => .long (lZ (f (j : Int)))))) := rfl
theorem at_AC (g : pw_P) (a n : Nat) (f : Int → Int) (H : Heap) : va_at g.1 vwCl (a, AC g n f) H = (H[a]? = some (arrV (g.2.1 2) n (fun (j : Nat) => .int (iZ (f (j : Int)))))) := rfl
theorem at_AZ (g : pw_P) (a n : Nat) (f : Int → Int) (H : Heap) : va_at g.1 vwCl (a, AZ g n f) H = (H[a]? = some (arrV (g.2.1 3) n (fun (j : Nat) => .int (iZ (f (j : Int)))))) := rfl
theorem at_AR (g : pw_P) (a t n : Nat) (f : Nat → Option Nat) (H : Heap) : va_at g.1 vwCl (a, AR g t n f) H = (H[a]? = some (arrV (g.2.1 t) n (fun j => va_rf (f j)))) := rfl
section
variable {g : pw_P} {p : Program} {l : Launch} {e : Env} {R : Room} {s : State} {m : MethodId} {args : Array Value} {below : List Frame} {meth : Method} {c : Code} {cc : ByteArray} {nL : Nat} {own : String} {Q : State → Prop} {cells slots pc : Nat} {lv : List (Nat × Value)} {st : List Value} {w : pw_W}
variable {k a ci j idx : Nat} {q : vw_C} {ty0 : Nat → FieldType} {fs : List Value} {v : Value} {ty : FieldType} {host : String}
theorem pw_get (C : pw_C g p s m args meth c cc nL own) (hcl : pw_CL ci q ty0) (hlink : Cond.fieldLink own idx q.1 (q.2.1 j).2.1 (q.2.1 j).2.2.1 ∈ pw_T) (hj : j < q.2.2) (hdecl : (q.2.1 j).1 = q.1) (hk : w k = (a, some (OB ci fs))) (hv : fs[j]? = some v) (hd : decode cc pc = .ok (.getfield idx, 3))
    (kk : pw_G g p l e R s m args below meth c nL Q cells slots (pc + 3) lv (v :: st) w) : pw_G g p l e R s m args below meth c nL Q cells slots pc lv (.ref a :: st) w := by
  intro ls H locs hl hH hS
  exact va_get (D := g.1) (cl := vwCl) (C := q.1) (T := q.2.1) (N := q.2.2) C.1 C.2.1 C.2.2.2.2.1 hcl.2.1 C.2.2.2.1 C.2.2.2.2.2.2.2.1 (hH.one hk) 0 rfl hcl.1 j hj (C.2.2.2.2.1 _ hlink) (fun x hx => by rw [← hdecl]; exact hx) hv hd (kk ls H locs hl hH hS)
theorem pw_getN (C : pw_C g p s m args meth c cc nL own) (hcl : pw_CL ci q ty0) (hlink : Cond.fieldLinkNest own idx q.1 (q.2.1 j).2.1 (q.2.1 j).2.2.1 host ∈ pw_N) (hj : j < q.2.2) (hdecl : (q.2.1 j).1 = q.1) (hk : w k = (a, some (OB ci fs))) (hv : fs[j]? = some v) (hd : decode cc pc = .ok (.getfield idx, 3))
    (kk : pw_G g p l e R s m args below meth c nL Q cells slots (pc + 3) lv (v :: st) w) : pw_G g p l e R s m args below meth c nL Q cells slots pc lv (.ref a :: st) w := by
  intro ls H locs hl hH hS
  exact va_getN (D := g.1) (cl := vwCl) (C := q.1) (T := q.2.1) (N := q.2.2) C.1 C.2.1 C.2.2.2.2.1 hcl.2.1 C.2.2.2.1 C.2.2.2.2.2.2.2.1 (hH.one hk) 0 rfl hcl.1 j hj (va_Nw.use rfl (C.2.2.2.2.2.2.2.2.1 _ hlink)) (fun x hx => by rw [← hdecl]; exact hx) hv hd (kk ls H locs hl hH hS)
/-- what a put needs of the tables, once for the three rows below -/
theorem pw_putV (C : pw_C g p s m args meth c cc nL own) (hcl : pw_CL ci q ty0) (hj : j < q.2.2) {H H1 : Heap} {locs : List Loc} (hH : pw_H g w H) (hk : w k = (a, some (OB ci fs))) (hl : j < fs.length) {f : Field} {cf fi : Nat} {kf : Class} (hi : s.fieldFound? (q.2.1 j).1 (q.2.1 j).2.1 (q.2.1 j).2.2.1 = some (cf, kf, fi, f)) {cell : Cell} (hcell : H[a]? = some cell) (e1 : H1[a]? = some (cell.setSlot f.slot v)) (e3 : ∀ x, x ≠ a → H1[x]? = H[x]?) : pw_H g (va_up w k (a, some (OB ci (fs.set j v)))) H1 := by
  refine hH.put hk ?_ e3
  have hap := va_apart (own := own) C.2.2.2.2.1 hcl.2.1 ty0 hcl.2.2.1 hcl.2.2.2 C.2.2.2.2.2.2.2.1 hcl.1
  obtain ⟨r, h1, cell', q1, q2, q3, q4⟩ := (hH.1 k a _ hk).1
  have hr : r = q := Option.some.inj (h1.symm.trans hcl.1)
  subst hr
  cases hcell.symm.trans q1
  obtain ⟨hS, -⟩ := C.2.2.2.2.2.2.2.1.1 ci _ hcl.1
  obtain ⟨cf', kf', fi', f', hi', hsl⟩ := hS j hj
  cases hi.symm.trans hi'
  rw [hsl] at e1
  exact ⟨_, hcl.1, t_OB.to (V := updV (vp_V fs) j v) ⟨_, e1, q2, q3, t_set q4 hap hj v⟩ (fun i _ => vp_updV_set hl v i)⟩
theorem pw_put (C : pw_C g p s m args meth c cc nL own) (hcl : pw_CL ci q ty0) (hlink : Cond.fieldLink own idx q.1 (q.2.1 j).2.1 (q.2.1 j).2.2.1 ∈ pw_T) (hj : j < q.2.2) (hdecl : (q.2.1 j).1 = q.1) (hfin : (q.2.1 j).2.2.2 = false) (hty : ty0 j = ty) (hn : narrow ty v = v) (hfit : fits ty v = true) (hk : w k = (a, some (OB ci fs))) (hl : j < fs.length) (hd : decode cc pc = .ok (.putfield idx, 3))
    (kk : ∀ w' : pw_W, w' k = (a, some (OB ci (fs.set j v))) → (∀ i, i ≠ k → w' i = w i) → pw_G g p l e R s m args below meth c nL Q cells slots (pc + 3) lv st w') : pw_G g p l e R s m args below meth c nL Q cells slots pc lv (v :: .ref a :: st) w := by
  intro ls H locs hl2 hH hS
  obtain ⟨r, h1, cell, q1, q2, q3, q4⟩ := (hH.1 k a _ hk).1
  have hr : r = q := Option.some.inj (h1.symm.trans hcl.1)
  subst hr
  obtain ⟨hSl, hfc, kC, hkC, hkind⟩ := C.2.2.2.2.2.2.2.1.1 ci _ hcl.1
  obtain ⟨cf, kf, fi, f, hi, hsl⟩ := hSl j hj
  have hlay := C.2.2.2.2.1 _ (hcl.2.1 _ (u_in_lay hj))
  unfold u_lay at hlay
  rw [if_neg (by rw [hfin]; decide)] at hlay
  have hst := (u_facts hfc hkC (u_lays C.2.2.2.2.1 hcl.2.1 hj) hi).1
  have h6 := u_store hfc hkC hkind hlay hi (hcl.2.2.1 j hj) (by rw [hty]; exact hn) (by rw [hty]; exact hfit)
  refine W.putK C.1 C.2.1 (f := f) ⟨C.2.2.2.1, C.2.2.2.2.1 _ hlink, ⟨_, _, _, by rw [← hdecl]; exact hi⟩, hst⟩ (by rw [q2]; exact h6) q1 q3 (by rw [hsl]; exact k2_hasslot (q4 j hj)) rfl rfl hd fun H' e1 e2 e3 => ?_
  exact kk _ (va_up_self _ _ _) (fun i hi => va_up_ne _ _ hi) ls H' _ hl2 (pw_putV (locs := locs) C hcl hj hH hk hl hi q1 e1 e3) (hS.put e2 e3 (hH.1 k a _ hk).2)
theorem pw_putN (C : pw_C g p s m args meth c cc nL own) (hcl : pw_CL ci q ty0) (hlink : Cond.fieldLinkNest own idx q.1 (q.2.1 j).2.1 (q.2.1 j).2.2.1 host ∈ pw_N) (hj : j < q.2.2) (hdecl : (q.2.1 j).1 = q.1) (hfin : (q.2.1 j).2.2.2 = false) (hty : ty0 j = ty) (hn : narrow ty v = v) (hfit : fits ty v = true) (hk : w k = (a, some (OB ci fs))) (hl : j < fs.length) (hd : decode cc pc = .ok (.putfield idx, 3))
    (kk : ∀ w' : pw_W, w' k = (a, some (OB ci (fs.set j v))) → (∀ i, i ≠ k → w' i = w i) → pw_G g p l e R s m args below meth c nL Q cells slots (pc + 3) lv st w') : pw_G g p l e R s m args below meth c nL Q cells slots pc lv (v :: .ref a :: st) w := by
  intro ls H locs hl2 hH hS
  obtain ⟨r, h1, cell, q1, q2, q3, q4⟩ := (hH.1 k a _ hk).1
  have hr : r = q := Option.some.inj (h1.symm.trans hcl.1)
  subst hr
  obtain ⟨hSl, hfc, kC, hkC, hkind⟩ := C.2.2.2.2.2.2.2.1.1 ci _ hcl.1
  obtain ⟨cf, kf, fi, f, hi, hsl⟩ := hSl j hj
  have hlay := C.2.2.2.2.1 _ (hcl.2.1 _ (u_in_lay hj))
  unfold u_lay at hlay
  rw [if_neg (by rw [hfin]; decide)] at hlay
  have hst := (u_facts hfc hkC (u_lays C.2.2.2.2.1 hcl.2.1 hj) hi).1
  have h6 := u_store hfc hkC hkind hlay hi (hcl.2.2.1 j hj) (by rw [hty]; exact hn) (by rw [hty]; exact hfit)
  refine va_WputK C.1 C.2.1 (f := f) C.2.2.2.1 (va_Nw.use rfl (C.2.2.2.2.2.2.2.2.1 _ hlink)) (by rw [← hdecl]; exact hi) hst (by rw [q2]; exact h6) q1 q3 (by rw [hsl]; exact k2_hasslot (q4 j hj)) rfl rfl hd fun H' e1 e2 e3 => ?_
  exact kk _ (va_up_self _ _ _) (fun i hi => va_up_ne _ _ hi) ls H' _ hl2 (pw_putV (locs := locs) C hcl hj hH hk hl hi q1 e1 e3) (hS.put e2 e3 (hH.1 k a _ hk).2)
/-- a final field, in a constructor -/
theorem pw_putF (C : pw_C g p s m args meth c cc nL own) (hname : meth.name = "<init>") (hcl : pw_CL ci q ty0) (hlink : Cond.fieldLink own idx q.1 (q.2.1 j).2.1 (q.2.1 j).2.2.1 ∈ pw_T) (hj : j < q.2.2) (hdecl : (q.2.1 j).1 = q.1) (hown : q.1 = own) (hfin : (q.2.1 j).2.2.2 = true) (hty : ty0 j = ty) (hn : narrow ty v = v) (hfit : fits ty v = true) (hk : w k = (a, some (OB ci fs))) (hl : j < fs.length) (hd : decode cc pc = .ok (.putfield idx, 3))
    (kk : ∀ w' : pw_W, w' k = (a, some (OB ci (fs.set j v))) → (∀ i, i ≠ k → w' i = w i) → pw_G g p l e R s m args below meth c nL Q cells slots (pc + 3) lv st w') : pw_G g p l e R s m args below meth c nL Q cells slots pc lv (v :: .ref a :: st) w := by
  intro ls H locs hl2 hH hS
  obtain ⟨r, h1, cell, q1, q2, q3, q4⟩ := (hH.1 k a _ hk).1
  have hr : r = q := Option.some.inj (h1.symm.trans hcl.1)
  subst hr
  obtain ⟨hSl, hfc, kC, hkC, hkind⟩ := C.2.2.2.2.2.2.2.1.1 ci _ hcl.1
  obtain ⟨cf, kf, fi, f, hi, hsl⟩ := hSl j hj
  have hlay := C.2.2.2.2.1 _ (hcl.2.1 _ (u_in_lay hj))
  unfold u_lay at hlay
  rw [if_pos hfin] at hlay
  have hst := (u_facts hfc hkC (u_lays C.2.2.2.2.1 hcl.2.1 hj) hi).1
  have hcf : m.cls = cf := by
    obtain ⟨_, _, c', _, _, _, -, -, hf', -, -, -, hown2, -⟩ := Cond.laysFinal_spec hlay
    have e1 : c' = cf := by have := hi.symm.trans hf'; simp at this; exact this.1.symm
    rw [hdecl, hown] at hown2
    rw [← e1]; exact Option.some.inj (C.2.2.2.1.symm.trans hown2)
  have h6 := u_fits hfc hkC hkind (Or.inr hlay) hi (hcl.2.2.1 j hj) (by rw [hty]; exact hn) (by rw [hty]; exact hfit)
  refine W.putFinK C.1 C.2.1 C.2.2.2.1 (C.2.2.2.2.1 _ hlink) (by rw [← hdecl]; exact hi) hst hcf hname (by rw [q2]; exact h6) q1 q3 (by rw [hsl]; exact k2_hasslot (q4 j hj)) rfl rfl hd fun H' e1 e2 e3 => ?_
  exact kk _ (va_up_self _ _ _) (fun i hi => va_up_ne _ _ hi) ls H' _ hl2 (pw_putV (locs := locs) C hcl hj hH hk hl hi q1 e1 e3) (hS.put e2 e3 (hH.1 k a _ hk).2)
/-! ARRAYS -/
variable {n : Nat} {f : Int → Int} {i x : Int}
theorem pw_iald (C : pw_C g p s m args meth c cc nL own) (hk : w k = (a, some (AI g n f))) (h : 0 ≤ i ∧ i < n ∧ i < 2147483648) (hd : decode cc pc = .ok (.iaload, 1))
    (kk : pw_G g p l e R s m args below meth c nL Q cells slots (pc + 1) lv (.int (iZ (f i)) :: st) w) : pw_G g p l e R s m args below meth c nL Q cells slots pc lv (.int (iZ i) :: .ref a :: st) w := by
  intro ls H locs hl hH hS
  refine va_iald (t0 := 0) C.1 C.2.1 C.2.2.2.2.2.2.2.1 (hH.one hk) 0 rfl rfl (iz_in h.1 h.2.1 h.2.2) hd ?_
  rw [iz_clamp ⟨by omega, h.2.2⟩, Int.toNat_of_nonneg h.1]
  exact kk ls H locs hl hH hS
theorem pw_lald (C : pw_C g p s m args meth c cc nL own) (hk : w k = (a, some (AJ g n f))) (h : 0 ≤ i ∧ i < n ∧ i < 2147483648) (hd : decode cc pc = .ok (.laload, 1))
    (kk : pw_G g p l e R s m args below meth c nL Q cells slots (pc + 1) lv (.long (lZ (f i)) :: st) w) : pw_G g p l e R s m args below meth c nL Q cells slots pc lv (.int (iZ i) :: .ref a :: st) w := by
  intro ls H locs hl hH hS
  refine va_lald (t0 := 1) C.1 C.2.1 C.2.2.2.2.2.2.2.1 (hH.one hk) 0 rfl rfl (iz_in h.1 h.2.1 h.2.2) hd ?_
  rw [iz_clamp ⟨by omega, h.2.2⟩, Int.toNat_of_nonneg h.1]
  exact kk ls H locs hl hH hS
theorem pw_cald (C : pw_C g p s m args meth c cc nL own) (hk : w k = (a, some (AC g n f))) (h : 0 ≤ i ∧ i < n ∧ i < 2147483648) (hd : decode cc pc = .ok (.caload, 1))
    (kk : pw_G g p l e R s m args below meth c nL Q cells slots (pc + 1) lv (.int (iZ (f i)) :: st) w) : pw_G g p l e R s m args below meth c nL Q cells slots pc lv (.int (iZ i) :: .ref a :: st) w := by
  intro ls H locs hl hH hS
  refine va_cald (t0 := 2) C.1 C.2.1 C.2.2.2.2.2.2.2.1 (hH.one hk) 0 rfl rfl (iz_in h.1 h.2.1 h.2.2) hd ?_
  rw [iz_clamp ⟨by omega, h.2.2⟩, Int.toNat_of_nonneg h.1]
  exact kk ls H locs hl hH hS
theorem pw_zald (C : pw_C g p s m args meth c cc nL own) (hk : w k = (a, some (AZ g n f))) (h : 0 ≤ i ∧ i < n ∧ i < 2147483648) (hd : decode cc pc = .ok (.baload, 1))
    (kk : pw_G g p l e R s m args below meth c nL Q cells slots (pc + 1) lv (.int (iZ (f i)) :: st) w) : pw_G g p l e R s m args below meth c nL Q cells slots pc lv (.int (iZ i) :: .ref a :: st) w := by
  intro ls H locs hl hH hS
  refine va_zald (t0 := 3) C.1 C.2.1 C.2.2.2.2.2.2.2.1 (hH.one hk) 0 rfl rfl (iz_in h.1 h.2.1 h.2.2) hd ?_
  rw [iz_clamp ⟨by omega, h.2.2⟩, Int.toNat_of_nonneg h.1]
  exact kk ls H locs hl hH hS
theorem pw_aald (C : pw_C g p s m args meth c cc nL own) {t : Nat} {cn : String} {fr : Nat → Option Nat} (hk : w k = (a, some (AR g t n fr))) (ht : (pw_tys g.2.1)[t]? = some (g.2.1 t, .object cn)) (h : 0 ≤ i ∧ i < n ∧ i < 2147483648) (hd : decode cc pc = .ok (.aaload, 1))
    (kk : pw_G g p l e R s m args below meth c nL Q cells slots (pc + 1) lv (va_rf (fr i.toNat) :: st) w) : pw_G g p l e R s m args below meth c nL Q cells slots pc lv (.int (iZ i) :: .ref a :: st) w := by
  intro ls H locs hl hH hS
  refine va_aldq (t0 := t) C.1 C.2.1 C.2.2.2.2.2.2.2.1 (hH.one hk) 0 rfl ht (iz_in h.1 h.2.1 h.2.2) hd ?_
  rw [iz_clamp ⟨by omega, h.2.2⟩]
  exact kk ls H locs hl hH hS
theorem pw_upd (f : Int → Int) {i : Int} (h0 : 0 ≤ i) (x : Int) (h : Int → Value) : updV (fun (y : Nat) => h (f (y : Int))) i.toNat (h x) = fun (y : Nat) => h (upz f i x (y : Int)) := by
  funext y
  by_cases hy : y = i.toNat
  · have : (y : Int) = i := by omega
    simp [updV, upz, hy]
    rw [Int.max_eq_left h0]
    simp
  · have : ¬ (y : Int) = i := by omega
    simp [updV, upz, hy, this]
theorem pw_iast (C : pw_C g p s m args meth c cc nL own) (hk : w k = (a, some (AI g n f))) (h : 0 ≤ i ∧ i < n ∧ i < 2147483648) (hd : decode cc pc = .ok (.iastore, 1))
    (kk : ∀ w' : pw_W, w' k = (a, some (AI g n (upz f i x))) → (∀ j, j ≠ k → w' j = w j) → pw_G g p l e R s m args below meth c nL Q cells slots (pc + 1) lv st w') : pw_G g p l e R s m args below meth c nL Q cells slots pc lv (.int (iZ x) :: .int (iZ i) :: .ref a :: st) w := by
  intro ls H locs hl hH hS
  refine W.iast C.1 C.2.1 (hH.1 k a _ hk).1 ((C.2.2.2.2.2.2.2.1.2 0 _ rfl).1 n (fun (j : Nat) => .int (iZ (f (j : Int))))) (fun q => by cases q) (by show ¬ (_ < 0 ∨ (arrV _ _ _).slots.size ≤ _); rw [arrV_size]; exact iz_in h.1 h.2.1 h.2.2) rfl rfl hd fun H1 e1 z oq => ?_
  refine kk _ (va_up_self _ _ _) (fun i hi => va_up_ne _ _ hi) ls H1 _ hl (hH.put hk ?_ oq) (hS.put z oq (hH.1 k a _ hk).2)
  rw [at_AI, e1, iz_clamp ⟨by omega, h.2.2⟩]
  exact congrArg some ((arrV_store (g.2.1 0) n i.toNat (fun (j : Nat) => Value.int (iZ (f (j : Int)))) (Value.int (iZ x))).trans (congrArg (arrV (g.2.1 0) n) (pw_upd f h.1 x (fun z => Value.int (iZ z)))))
theorem pw_last (C : pw_C g p s m args meth c cc nL own) (hk : w k = (a, some (AJ g n f))) (h : 0 ≤ i ∧ i < n ∧ i < 2147483648) (hd : decode cc pc = .ok (.lastore, 1))
    (kk : ∀ w' : pw_W, w' k = (a, some (AJ g n (upz f i x))) → (∀ j, j ≠ k → w' j = w j) → pw_G g p l e R s m args below meth c nL Q cells slots (pc + 1) lv st w') : pw_G g p l e R s m args below meth c nL Q cells slots pc lv (.long (lZ x) :: .int (iZ i) :: .ref a :: st) w := by
  intro ls H locs hl hH hS
  refine W.last C.1 C.2.1 (hH.1 k a _ hk).1 ((C.2.2.2.2.2.2.2.1.2 1 _ rfl).1 n (fun (j : Nat) => .long (lZ (f (j : Int))))) (fun q => by cases q) (by show ¬ (_ < 0 ∨ (arrV _ _ _).slots.size ≤ _); rw [arrV_size]; exact iz_in h.1 h.2.1 h.2.2) rfl rfl hd fun H1 e1 z oq => ?_
  refine kk _ (va_up_self _ _ _) (fun i hi => va_up_ne _ _ hi) ls H1 _ hl (hH.put hk ?_ oq) (hS.put z oq (hH.1 k a _ hk).2)
  rw [at_AJ, e1, iz_clamp ⟨by omega, h.2.2⟩]
  exact congrArg some ((arrV_store (g.2.1 1) n i.toNat (fun (j : Nat) => Value.long (lZ (f (j : Int)))) (Value.long (lZ x))).trans (congrArg (arrV (g.2.1 1) n) (pw_upd f h.1 x (fun z => Value.long (lZ z)))))
theorem pw_cast (C : pw_C g p s m args meth c cc nL own) (hk : w k = (a, some (AC g n f))) (h : 0 ≤ i ∧ i < n ∧ i < 2147483648) (hx : narrow .char (.int (iZ x)) = .int (iZ x)) (hd : decode cc pc = .ok (.castore, 1))
    (kk : ∀ w' : pw_W, w' k = (a, some (AC g n (upz f i x))) → (∀ j, j ≠ k → w' j = w j) → pw_G g p l e R s m args below meth c nL Q cells slots (pc + 1) lv st w') : pw_G g p l e R s m args below meth c nL Q cells slots pc lv (.int (iZ x) :: .int (iZ i) :: .ref a :: st) w := by
  intro ls H locs hl hH hS
  refine W.cast C.1 C.2.1 (hH.1 k a _ hk).1 ((C.2.2.2.2.2.2.2.1.2 2 _ rfl).1 n (fun (j : Nat) => .int (iZ (f (j : Int))))) (fun q => by cases q) (by show ¬ (_ < 0 ∨ (arrV _ _ _).slots.size ≤ _); rw [arrV_size]; exact iz_in h.1 h.2.1 h.2.2) rfl rfl hd fun H1 e1 z oq => ?_
  refine kk _ (va_up_self _ _ _) (fun i hi => va_up_ne _ _ hi) ls H1 _ hl (hH.put hk ?_ oq) (hS.put z oq (hH.1 k a _ hk).2)
  rw [at_AC, e1, iz_clamp ⟨by omega, h.2.2⟩, hx]
  exact congrArg some ((arrV_store (g.2.1 2) n i.toNat (fun (j : Nat) => Value.int (iZ (f (j : Int)))) (Value.int (iZ x))).trans (congrArg (arrV (g.2.1 2) n) (pw_upd f h.1 x (fun z => Value.int (iZ z)))))
theorem pw_zast (C : pw_C g p s m args meth c cc nL own) (hk : w k = (a, some (AZ g n f))) (h : 0 ≤ i ∧ i < n ∧ i < 2147483648) (hx : narrow .boolean (.int (iZ x)) = .int (iZ x)) (hd : decode cc pc = .ok (.bastore, 1))
    (kk : ∀ w' : pw_W, w' k = (a, some (AZ g n (upz f i x))) → (∀ j, j ≠ k → w' j = w j) → pw_G g p l e R s m args below meth c nL Q cells slots (pc + 1) lv st w') : pw_G g p l e R s m args below meth c nL Q cells slots pc lv (.int (iZ x) :: .int (iZ i) :: .ref a :: st) w := by
  intro ls H locs hl hH hS
  refine W.zast C.1 C.2.1 (hH.1 k a _ hk).1 ((C.2.2.2.2.2.2.2.1.2 3 _ rfl).1 n (fun (j : Nat) => .int (iZ (f (j : Int))))) (fun q => by cases q) (by show ¬ (_ < 0 ∨ (arrV _ _ _).slots.size ≤ _); rw [arrV_size]; exact iz_in h.1 h.2.1 h.2.2) rfl rfl hd fun H1 e1 z oq => ?_
  refine kk _ (va_up_self _ _ _) (fun i hi => va_up_ne _ _ hi) ls H1 _ hl (hH.put hk ?_ oq) (hS.put z oq (hH.1 k a _ hk).2)
  rw [at_AZ, e1, iz_clamp ⟨by omega, h.2.2⟩, hx]
  exact congrArg some ((arrV_store (g.2.1 3) n i.toNat (fun (j : Nat) => Value.int (iZ (f (j : Int)))) (Value.int (iZ x))).trans (congrArg (arrV (g.2.1 3) n) (pw_upd f h.1 x (fun z => Value.int (iZ z)))))
theorem pw_alen (C : pw_C g p s m args meth c cc nL own) {t : Nat} {y : vp_A} {ty : FieldType} (hk : w k = (a, some (.inl (g.2.1 t, y)))) (ht : (pw_tys g.2.1)[t]? = some (g.2.1 t, ty)) (hd : decode cc pc = .ok (.arraylength, 1))
    (kk : pw_G g p l e R s m args below meth c nL Q cells slots (pc + 1) lv (.int (iZ y.1) :: st) w) : pw_G g p l e R s m args below meth c nL Q cells slots pc lv (.ref a :: st) w := by
  intro ls H locs hl hH hS
  exact va_alen (t0 := t) C.1 C.2.1 C.2.2.2.2.2.2.2.1 (hH.one hk) 0 rfl ht (by first | exact Int32.ofInt_eq_ofNat.symm | rfl) hd (kk ls H locs hl hH hS)
/-! NEW -/
theorem pw_new (k : Nat) (C : pw_C g p s m args meth c cc nL own) (hcl : pw_CL ci q ty0) (hlink : Cond.classLink own idx q.1 ∈ pw_T) (hinst : Cond.instantiable q.1 q.2.2 ∈ pw_T) (hini : Cond.initialized q.1 ∈ pw_T) (hfs : ∀ j, j < q.2.2 → defaultValue (ty0 j) = vp_V fs j) (hc : cells + 1 ≤ R.cells) (hsl : slots + q.2.2 ≤ R.slots) (hd : decode cc pc = .ok (.new idx, 3))
    (kk : ∀ (a : Nat) (w' : pw_W), w' k = (a, some (OB ci fs)) → (∀ i, i ≠ k → w' i = w i) → pw_G g p l e R s m args below meth c nL Q (cells + 1) (slots + q.2.2) (pc + 3) lv (.ref a :: st) w') : pw_G g p l e R s m args below meth c nL Q cells slots pc lv st w := by
  intro ls H locs hl hH hS
  have hKn := C.2.2.2.2.2.2.2.1.1 ci _ hcl.1
  refine W.newcK C.1 C.2.1 C.2.2.2.1 (C.2.2.2.2.1 _ hlink) (C.2.2.2.2.1 _ hinst) (C.2.2.2.2.1 _ hini) rfl hd hc hsl hKn.2.1 rfl fun H1 kC hkC e1 z1 o1 => ?_
  exact kk H.size _ (va_up_self _ _ _) (fun i hi => va_up_ne _ _ hi) ls H1 locs hl (hH.new (e := OB ci fs) o1 ⟨_, hcl.1, (u_born ty0 C.2.2.2.2.1 hcl.2.1 hKn hkC e1 hcl.2.2.1).to hfs⟩ (Nat.le_trans C.2.2.2.2.2.2.1 hS.1) k) ⟨Nat.le_trans hS.1 (by omega), fun x h1 h2 => (o1 x (Nat.lt_of_lt_of_le h1 hS.1)).trans (hS.2.1 x h1 h2), hS.2.2⟩
theorem pw_newA (k t : Nat) (C : pw_C g p s m args meth c cc nL own) {atype : ArrayType} {e0 : va_E} {N : Nat} (harr : Cond.arrayClass (newarray.typeOf atype) ∈ pw_T) (ht : (pw_tys g.2.1)[t]? = some (g.2.1 t, newarray.typeOf atype)) (he : ∀ H1 : Heap, H1[H1.size - 1]? = some (arrV (g.2.1 t) N (fun _ => defaultValue (newarray.typeOf atype))) → va_at g.1 vwCl (H1.size - 1, e0) H1) {i : Int} (hi : i = (N : Int)) (hN : N < 2147483648) (hbytes : N * componentBytes (newarray.typeOf atype) ≤ 536870912) (hc : cells + 1 ≤ R.cells) (hsl : slots + N ≤ R.slots) (hd : decode cc pc = .ok (.newarray atype, 2))
    (kk : ∀ (a : Nat) (w' : pw_W), w' k = (a, some e0) → (∀ i, i ≠ k → w' i = w i) → pw_G g p l e R s m args below meth c nL Q (cells + 1) (slots + N) (pc + 2) lv (.ref a :: st) w') : pw_G g p l e R s m args below meth c nL Q cells slots pc lv (.int (iZ i) :: st) w := by
  intro ls H locs hl hH hS
  subst hi
  have hin : inI (N : Int) := ⟨by omega, by omega⟩
  refine va_newaK C.1 C.2.1 (C.2.2.2.2.1 _ harr) rfl hd rfl (fun q => ?_) (N := N) ?_ hbytes hc hsl rfl fun H1 cA e1 z1 o1 hAr hNm => ?_
  · rw [← iz_0] at q
    have := (iz_lt hin (b := 0) ⟨by decide, by decide⟩).mp q
    omega
  · rw [iz_clamp hin]; omega
  · have hcA : cA = g.2.1 t := by
      have h2 := (C.2.2.2.2.2.2.2.1.2 t _ ht).2
      have h3 : s.vm.findClass ("[" ++ (newarray.typeOf atype).toString) = some (g.2.1 t) := by
        revert h2
        cases atype <;> exact fun h => h
      exact Option.some.inj (hNm.symm.trans h3)
    subst hcA
    have he1 := he H1 (by rw [z1]; exact e1)
    rw [z1] at he1
    exact kk H.size _ (va_up_self _ _ _) (fun i hi => va_up_ne _ _ hi) ls H1 locs hl (hH.new o1 he1 (Nat.le_trans C.2.2.2.2.2.2.1 hS.1) k) ⟨Nat.le_trans hS.1 (by omega), fun x h1 h2 => (o1 x (Nat.lt_of_lt_of_le h1 hS.1)).trans (hS.2.1 x h1 h2), hS.2.2⟩
end
